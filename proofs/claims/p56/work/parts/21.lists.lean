/-! LISTS: size, get -/
set_option maxRecDepth 100000 in
set_option maxHeartbeats 4000000 in
theorem c_J3_checkIndex_8e157 {g : Gt} {h : AH} {a b : Int} (h0 : 0 ≤ a ∧ a < b) (h1 : b < 2147483648) : Pr g M_J3_checkIndex_8e157 0 [.int (J a), .int (J b), .null] h (some (.int (J a))) := by
  refine pr_of rfl rfl (ls := [some (.int (J a)), some (.int (J b)), some (.null)]) rfl (Nat.le_of_ble_eq_true rfl) ?_
  show Ev g M_J3_checkIndex_8e157 0 0 [some (.int (J a)), some (.int (J b)), some (.null)] [] h 0 0 (PQ (some (.int (J a))) h)
  refine ev_ild0 1 dJ3_checkIndex_8e157_0 rfl ?_
  refine tj_if_lt 9 4 dJ3_checkIndex_8e157_1 (by decide) rfl (by first | exact TR.rng hT _ _ _ | exact R31_of _ | exact bi_R _ | (constructor <;> omega)) (fun c1 => ?_) (fun c1 => ?_)
  · exact False.elim (by omega)
  · skip
    refine ev_ild0 5 dJ3_checkIndex_8e157_4 rfl ?_
    refine ev_ild1 6 dJ3_checkIndex_8e157_5 rfl ?_
    refine tj_icmp_lt 16 9 dJ3_checkIndex_8e157_6 (by decide) rfl (by first | exact TR.rng hT _ _ _ | exact R31_of _ | exact bi_R _ | (constructor <;> omega)) (by first | exact TR.rng hT _ _ _ | exact R31_of _ | exact bi_R _ | (constructor <;> omega)) (fun c6 => ?_) (fun c6 => ?_)
    · skip
      refine ev_ild0 17 dJ3_checkIndex_8e157_16 rfl ?_
      exact ev_ireturn (pq_i (by first | rfl | omega | exact bi_dt (by omega) | exact bi_df (by omega) | (skip))) rfl dJ3_checkIndex_8e157_17
    · exact False.elim (by omega)
set_option maxRecDepth 100000 in
set_option maxHeartbeats 4000000 in
theorem c_J15_checkIndex_7cf53 {g : Gt} {h : AH} {a b : Int} (h0 : 0 ≤ a ∧ a < b) (h1 : b < 2147483648) : Pr g M_J15_checkIndex_7cf53 1 [.int (J a), .int (J b)] h (some (.int (J a))) := by
  refine pr_of rfl rfl (ls := [some (.int (J a)), some (.int (J b))]) rfl (Nat.le_of_ble_eq_true rfl) ?_
  show Ev g M_J15_checkIndex_7cf53 1 0 [some (.int (J a)), some (.int (J b))] [] h 0 0 (PQ (some (.int (J a))) h)
  refine ev_ild0 1 dJ15_checkIndex_7cf53_0 rfl ?_
  refine ev_ild1 2 dJ15_checkIndex_7cf53_1 rfl ?_
  refine ev_null 3 dJ15_checkIndex_7cf53_2 rfl ?_
  refine tc_S3 6 dJ15_checkIndex_7cf53_3 lks_J15_105 rfl (by first | decide | omega) (Nat.le_of_ble_eq_true rfl) (c_J3_checkIndex_8e157 (by omega) (by omega)) ?_
  exact ev_ireturn (pq_i (by first | rfl | omega | exact bi_dt (by omega) | exact bi_df (by omega) | (skip))) rfl dJ15_checkIndex_7cf53_6
set_option maxRecDepth 100000 in
set_option maxHeartbeats 4000000 in
theorem c_Jx4a65c_size_8abf5 {g : Gt} {α : AL} {ν : Nat → Nat → Bool} {X : XM} {h : AH} (hT : TR g α ν X h) {i : Nat} (hL : LW ν X i) : Pr g M_Jx4a65c_size_8abf5 0 [.ref (α 1 i)] h (some (.int (J (X 1 i 2)))) := by
  refine pr_of rfl rfl (ls := [some (.ref (α 1 i))]) rfl (Nat.le_of_ble_eq_true rfl) ?_
  show Ev g M_Jx4a65c_size_8abf5 0 0 [some (.ref (α 1 i))] [] h 0 0 (PQ (some (.int (J (X 1 i 2)))) h)
  refine ev_ald0 1 dJx4a65c_size_8abf5_0 rfl ?_
  refine ev_getfield 4 2 2 fl_Jx4a65c_48_2 (lw_cell hT hL) rfl dJx4a65c_size_8abf5_1 rfl ?_
  exact ev_ireturn (pq_i (by first | rfl | omega | exact bi_dt (by omega) | exact bi_df (by omega) | (skip))) rfl dJx4a65c_size_8abf5_4
set_option maxRecDepth 100000 in
set_option maxHeartbeats 4000000 in
theorem c_Jx4a65c_elementData_915e3 {g : Gt} {α : AL} {ν : Nat → Nat → Bool} {X : XM} {h : AH} (hT : TR g α ν X h) {i : Nat} (hL : LW ν X i) {j q : Nat} (hj : (j : Int) < X 1 i 2) (hq : el α (ek i) (X 2 i (j + 1)) = some q) : Pr g M_Jx4a65c_elementData_915e3 0 [.ref (α 1 i), .int (J (j : Int))] h (some (.ref q)) := by
  refine pr_of rfl rfl (ls := [some (.ref (α 1 i)), some (.int (J (j : Int)))]) rfl (Nat.le_of_ble_eq_true rfl) ?_
  show Ev g M_Jx4a65c_elementData_915e3 0 0 [some (.ref (α 1 i)), some (.int (J (j : Int)))] [] h 0 0 (PQ (some (.ref q)) h)
  have he : X 1 i 1 ≠ 0 := fun e => by have := hL.2.2.1 e; omega
  have hz := (hL.2.1 he).2
  have hy := hL.2.2.2.2
  refine ev_ald0 1 dJx4a65c_elementData_915e3_0 rfl ?_
  refine ev_getfield 4 2 1 fl_Jx4a65c_9_2 (lw_cellE hT hL he) rfl dJx4a65c_elementData_915e3_1 rfl ?_
  refine ev_ild1 5 dJx4a65c_elementData_915e3_4 rfl ?_
  refine tv_aald 6 (lw_arr hT hL he) (j) (by omega) (by omega) (by omega) hq dJx4a65c_elementData_915e3_5 rfl ?_
  exact ev_areturn ⟨rfl, rfl⟩ rfl dJx4a65c_elementData_915e3_6
set_option maxRecDepth 100000 in
set_option maxHeartbeats 4000000 in
theorem c_Jx4a65c_get_915e3 {g : Gt} {α : AL} {ν : Nat → Nat → Bool} {X : XM} {h : AH} (hT : TR g α ν X h) {i : Nat} (hL : LW ν X i) {j q : Nat} (hj : (j : Int) < X 1 i 2) (hq : el α (ek i) (X 2 i (j + 1)) = some q) : Pr g M_Jx4a65c_get_915e3 2 [.ref (α 1 i), .int (J (j : Int))] h (some (.ref q)) := by
  refine pr_of rfl rfl (ls := [some (.ref (α 1 i)), some (.int (J (j : Int)))]) rfl (Nat.le_of_ble_eq_true rfl) ?_
  show Ev g M_Jx4a65c_get_915e3 2 0 [some (.ref (α 1 i)), some (.int (J (j : Int)))] [] h 0 0 (PQ (some (.ref q)) h)
  have hz := hT.rng 1 i 2
  refine ev_ild1 1 dJx4a65c_get_915e3_0 rfl ?_
  refine ev_ald0 2 dJx4a65c_get_915e3_1 rfl ?_
  refine ev_getfield 5 2 2 fl_Jx4a65c_48_2 (lw_cell hT hL) rfl dJx4a65c_get_915e3_2 rfl ?_
  refine tc_S2 8 dJx4a65c_get_915e3_5 lks_Jx4a65c_118 rfl (by first | decide | omega) (Nat.le_of_ble_eq_true rfl) (c_J15_checkIndex_7cf53 (by omega) (by omega)) ?_
  refine ev_pop 9 dJx4a65c_get_915e3_8 rfl rfl ?_
  refine ev_ald0 10 dJx4a65c_get_915e3_9 rfl ?_
  refine ev_ild1 11 dJx4a65c_get_915e3_10 rfl ?_
  refine tc_V1 14 2 dJx4a65c_get_915e3_11 lkv_Jx4a65c_123 (lw_cell hT hL) rfl rfl (by first | decide | omega) (Nat.le_of_ble_eq_true rfl) (c_Jx4a65c_elementData_915e3 hT hL hj hq) ?_
  exact ev_areturn ⟨rfl, rfl⟩ rfl dJx4a65c_get_915e3_14
theorem g_C {g : Gt} {α : AL} {ν : Nat → Nat → Bool} {X : XM} {h : AH} (hT : TR g α ν X h) (hW : WX ν X) {j : Nat} (hj : (j : Int) < nC X) : Pr g M_Jx4a65c_get_915e3 2 [.ref (α 1 0), .int (J (j : Int))] h (some (.ref (α 12 j))) := c_Jx4a65c_get_915e3 hT (lw_i hT hW (by omega)) hj (el_of (wv_le hW.2 0 j (by omega) hj))
theorem g_S {g : Gt} {α : AL} {ν : Nat → Nat → Bool} {X : XM} {h : AH} (hT : TR g α ν X h) (hW : WX ν X) {j : Nat} (hj : (j : Int) < nS X) : Pr g M_Jx4a65c_get_915e3 2 [.ref (α 1 1), .int (J (j : Int))] h (some (.ref (α 4 j))) := c_Jx4a65c_get_915e3 hT (lw_i hT hW (by omega)) hj (el_of (wv_le hW.2 1 j (by omega) hj))
theorem g_F {g : Gt} {α : AL} {ν : Nat → Nat → Bool} {X : XM} {h : AH} (hT : TR g α ν X h) (hW : WX ν X) {j : Nat} (hj : (j : Int) < nF X) : Pr g M_Jx4a65c_get_915e3 2 [.ref (α 1 2), .int (J (j : Int))] h (some (.ref (α 16 j))) := c_Jx4a65c_get_915e3 hT (lw_i hT hW (by omega)) hj (el_of (wv_le hW.2 2 j (by omega) hj))
theorem ek_w (c : Nat) : ek (4 + c) = 4 := by
  unfold ek
  rw [if_neg (by omega), if_neg (by omega), if_neg (by omega)]
theorem g_W {g : Gt} {α : AL} {ν : Nat → Nat → Bool} {X : XM} {h : AH} (hT : TR g α ν X h) (hW : WX ν X) {c : Nat} (hc : (c : Int) < nC X) {j : Nat} (hj : (j : Int) < X 1 (4 + c) 2) : Pr g M_Jx4a65c_get_915e3 2 [.ref (α 1 (4 + c)), .int (J (j : Int))] h (some (.ref (α 4 (X 2 (4 + c) (j + 1)).toNat))) := by
  have h1 := wo_wA hW.1 c j hc hj
  have h2 : el α (ek (4 + c)) (X 2 (4 + c) (j + 1)) = some (α 4 (X 2 (4 + c) (j + 1)).toNat) := by
    rw [ek_w]
    exact el_of (show X 2 (4 + c) (j + 1) = ((X 2 (4 + c) (j + 1)).toNat : Int) by omega)
  exact c_Jx4a65c_get_915e3 hT (lw_w hT hW hc) hj h2
theorem z_I {g : Gt} {α : AL} {ν : Nat → Nat → Bool} {X : XM} {h : AH} (hT : TR g α ν X h) (hW : WX ν X) {i : Nat} (hi : i < 4) : Pr g M_Jx4a65c_size_8abf5 0 [.ref (α 1 i)] h (some (.int (J (X 1 i 2)))) := c_Jx4a65c_size_8abf5 hT (lw_i hT hW hi)
theorem z_C {g : Gt} {α : AL} {ν : Nat → Nat → Bool} {X : XM} {h : AH} (hT : TR g α ν X h) (hW : WX ν X) : Pr g M_Jx4a65c_size_8abf5 0 [.ref (α 1 0)] h (some (.int (J (nC X)))) := z_I hT hW (by decide)
theorem z_S {g : Gt} {α : AL} {ν : Nat → Nat → Bool} {X : XM} {h : AH} (hT : TR g α ν X h) (hW : WX ν X) : Pr g M_Jx4a65c_size_8abf5 0 [.ref (α 1 1)] h (some (.int (J (nS X)))) := z_I hT hW (by decide)
theorem z_F {g : Gt} {α : AL} {ν : Nat → Nat → Bool} {X : XM} {h : AH} (hT : TR g α ν X h) (hW : WX ν X) : Pr g M_Jx4a65c_size_8abf5 0 [.ref (α 1 2)] h (some (.int (J (nF X)))) := z_I hT hW (by decide)
theorem z_R {g : Gt} {α : AL} {ν : Nat → Nat → Bool} {X : XM} {h : AH} (hT : TR g α ν X h) (hW : WX ν X) : Pr g M_Jx4a65c_size_8abf5 0 [.ref (α 1 3)] h (some (.int (J (nR X)))) := z_I hT hW (by decide)
theorem z_W {g : Gt} {α : AL} {ν : Nat → Nat → Bool} {X : XM} {h : AH} (hT : TR g α ν X h) (hW : WX ν X) {c : Nat} (hc : (c : Int) < nC X) : Pr g M_Jx4a65c_size_8abf5 0 [.ref (α 1 (4 + c))] h (some (.int (J (X 1 (4 + c) 2)))) := c_Jx4a65c_size_8abf5 hT (lw_w hT hW hc)
