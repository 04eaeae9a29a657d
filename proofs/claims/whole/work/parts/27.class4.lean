/-! THE CLASS: seats are given out -/
theorem clear_c {g : Gt} {α : AL} {ν : Nat → Nat → Bool} {X : XM} {h : AH} (hT : TR g α ν X h) (hW : WX ν X) {c : Nat} (hc : (c : Int) < nC X) : Mu g α ν M_Jx4a65c_clear_da8c8 0 [.ref (α 1 (4 + c))] h none (fun X' => CLR X X' c) := by
  by_cases he : X 1 (4 + c) 1 = 0
  · exact c_clear_e hT hW hc he
  · exact c_clear_n hT hW hc he
set_option maxRecDepth 100000 in
set_option maxHeartbeats 4000000 in
theorem c_X2_stopWaiting {g : Gt} {α : AL} {ν : Nat → Nat → Bool} {X : XM} {h : AH} (hT : TR g α ν X h) (hW : WX ν X) {c : Nat} (hc : (c : Int) < nC X) {s : Nat} (hs : ν 4 s = true) (hl : s < 17) : Mu g α ν M_X2_stopWaiting 7 [.ref (α 12 c), .ref (α 4 s)] h (none) (fun X' => X' = if place X c s = -1 then X else lv X c (place X c s).toNat) := by
  refine mu_of rfl rfl (ls := [some (.ref (α 12 c)), some (.ref (α 4 s)), none]) rfl (Nat.le_of_ble_eq_true rfl) ?_
  show Ev g M_X2_stopWaiting 7 0 [some (.ref (α 12 c)), some (.ref (α 4 s)), none] [] h 0 0 (UQ g α ν (none) (fun X' => X' = if place X c s = -1 then X else lv X c (place X c s).toNat))
  have q1 := wo_nC hW.1
  have q3 := wo_nS hW.1
  have q5 := wo_wN hW.1 c hc
  have q6 := place_R hW.1 hc s
  have q7 := plc_R X c s (X 1 (4 + c) 2).toNat
  refine ev_ald0 1 dX2_stopWaiting_0 rfl ?_
  refine ev_ald1 2 dX2_stopWaiting_1 rfl ?_
  refine tc_V1 5 5 dX2_stopWaiting_2 lkv_X2_43 (tr12 hT (by first | assumption | exact wx_stu hW (by omega) | exact wx_crs hW (by omega) | exact wx_new hW)) rfl rfl (by first | decide | omega) (Nat.le_of_ble_eq_true rfl) (c_X2_placeFor hT hW (by omega) (by first | assumption | exact wx_stu hW (by omega)) (by omega)) ?_
  refine ev_ist2 6 dX2_stopWaiting_5 rfl (by decide) rfl ?_
  refine ev_ild2 7 dX2_stopWaiting_6 rfl ?_
  refine tj_iconst 8 dX2_stopWaiting_7 rfl ?_
  refine tj_icmp_eq 20 11 dX2_stopWaiting_8 (by decide) rfl (by first | exact TR.rng hT _ _ _ | exact R31_of _ | exact bi_R _ | (constructor <;> omega)) (by first | exact TR.rng hT _ _ _ | exact R31_of _ | exact bi_R _ | (constructor <;> omega)) (fun c8 => ?_) (fun c8 => ?_)
  · skip
    exact ev_vreturn (uq_v hT (by first | (rw [if_pos (by omega)]) | (rw [if_neg (by omega), hk]; exact hP17))) rfl dX2_stopWaiting_20
  · skip
    refine ev_ald0 12 dX2_stopWaiting_11 rfl ?_
    refine ev_getfield 15 5 4 fl_X2_18_5 (tr12 hT (by first | assumption | exact wx_stu hW (by omega) | exact wx_crs hW (by omega) | exact wx_new hW)) rfl dX2_stopWaiting_12 rfl ?_
    refine ev_ild2 16 dX2_stopWaiting_15 rfl ?_
    refine tm_V1 19 2 dX2_stopWaiting_16 lkv_X2_47 (tr1_W hT (by first | assumption | exact wx_stu hW (by omega) | exact wx_crs hW (by omega) | exact wx_new hW)) rfl rfl (by first | decide | omega) (Nat.le_of_ble_eq_true rfl) (c_Jx4a65c_remove_915e3 hT hW (by omega) (by omega)) (fun h X1 hT hP16 => ?_)
    refine ev_pop 20 dX2_stopWaiting_19 rfl rfl ?_
    exact ev_vreturn (uq_v hT (by first | (rw [if_pos (by omega)]) | (rw [if_neg (by omega), hk]; exact hP17))) rfl dX2_stopWaiting_20
