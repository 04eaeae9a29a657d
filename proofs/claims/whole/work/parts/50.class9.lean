/-! THE CLASS: transcripts, the calls -/
theorem numL_R {v : Int} (hv : 0 ≤ v) : ∀ x ∈ numL v, 0 ≤ x ∧ x < 128 := by
  intro x hx
  unfold numL at hx
  rcases List.mem_append.mp hx with h | h
  · split at h
    · simp at h; omega
    · simp at h
  · rcases List.mem_append.mp h with h | h
    · split at h
      · simp at h; omega
      · simp at h
    · simp at h; omega
theorem tl_R {X : XM} (hO : WO X) {s c : Nat} (hs : (s : Int) < nS X) (hc : c < 20) : ∀ k : Nat, (k : Int) ≤ X 9 s c → ∀ x ∈ tl X s c k, 0 ≤ x ∧ x < 128
  | 0, _, x, hx => by
    unfold tl at hx
    split at hx
    · simp at hx; omega
    · simp at hx
  | k + 1, hk, x, hx => by
    have q := wo_trd hO s c k hs hc (by omega)
    rw [tl] at hx
    rcases List.mem_append.mp hx with h | h
    · exact tl_R hO hs hc k (by omega) x h
    · rcases List.mem_append.mp h with h | h
      · split at h
        · simp at h; omega
        · simp at h
      · split at h
        · simp at h; omega
        · exact numL_R (by omega) x h
theorem allL_M {X : XM} (hO : WO X) {s : Nat} (hs : (s : Int) < nS X) : ∀ c : Nat, (c : Int) ≤ nC X → ∀ x ∈ allL X s c, 0 ≤ x ∧ x < 128
  | 0, _, x, hx => by cases hx
  | c + 1, hc, x, hx => by
    have q := wo_nC hO
    have ht := wo_tri hO s c hs (by omega)
    rw [allL] at hx
    rcases List.mem_append.mp hx with h | h
    · exact allL_M hO hs c (by omega) x h
    · split at h
      · unfold crsL at h
        rcases List.mem_append.mp h with h | h
        · exact numL_R (by omega) x h
        · rcases List.mem_append.mp h with h | h
          · simp at h; omega
          · rcases List.mem_append.mp h with h | h
            · exact tl_R hO hs (by omega) _ (by omega) x h
            · simp at h; omega
      · cases h
theorem allL_R {X : XM} (hO : WO X) {s : Nat} (hs : (s : Int) < nS X) {c : Nat} (_ : c = c) {i : Nat} (hi : i < (allL X s (nC X).toNat).length) : 0 ≤ (allL X s (nC X).toNat).getD i 0 ∧ (allL X s (nC X).toNat).getD i 0 < 128 := by
  have q := wo_nC hO
  refine allL_M hO hs (nC X).toNat (by omega) _ ?_
  rw [List.getD_eq_getElem?_getD, List.getElem?_eq_getElem hi]
  exact List.getElem_mem hi
set_option maxRecDepth 100000 in
set_option maxHeartbeats 4000000 in
theorem c_X11_transcriptLength_b1 {g : Gt} {α : AL} {ν : Nat → Nat → Bool} {X : XM} {h : AH} (hT : TR g α ν X h) (hW : WX ν X) {b : Int} (hb : R31 b) (hn : ¬ (0 ≤ b ∧ b < nS X)) : Th g M_X11_transcriptLength 28 [.ref (α 0 0), .int (J b)] h "java/lang/IndexOutOfBoundsException" := by
  refine th_of rfl rfl (ls := [some (.ref (α 0 0)), some (.int (J b))]) rfl (Nat.le_of_ble_eq_true rfl) ?_
  show Ev g M_X11_transcriptLength 28 0 [some (.ref (α 0 0)), some (.int (J b))] [] h 1 6 (TQ "java/lang/IndexOutOfBoundsException" h)
  have q1 := wo_nC hW.1
  have q3 := wo_nS hW.1
  refine ev_ald0 1 dX11_transcriptLength_0 rfl ?_
  refine ev_getfield 4 13 9 fl_X11_48_13 (tr0 hT) rfl dX11_transcriptLength_1 rfl ?_
  refine ev_ald0 5 dX11_transcriptLength_4 rfl ?_
  refine ev_ild1 6 dX11_transcriptLength_5 rfl ?_
  exact tx_V1 9 13 dX11_transcriptLength_6 lkv_X11_93 (tr0 hT) rfl rfl (by first | decide | omega) (Nat.le_of_ble_eq_true rfl) rfl (by decide) (by decide) (c_X11_studentAt_no hT hW hb hn) ⟨rfl, rfl⟩
set_option maxRecDepth 100000 in
set_option maxHeartbeats 4000000 in
theorem c_X11_transcriptAt_b1 {g : Gt} {α : AL} {ν : Nat → Nat → Bool} {X : XM} {h : AH} (hT : TR g α ν X h) (hW : WX ν X) {b : Int} (hb : R31 b) (hn : ¬ (0 ≤ b ∧ b < nS X)) {a1 : Int} (ha1 : R31 a1) : Th g M_X11_transcriptAt 28 [.ref (α 0 0), .int (J b), .int (J a1)] h "java/lang/IndexOutOfBoundsException" := by
  refine th_of rfl rfl (ls := [some (.ref (α 0 0)), some (.int (J b)), some (.int (J a1))]) rfl (Nat.le_of_ble_eq_true rfl) ?_
  show Ev g M_X11_transcriptAt 28 0 [some (.ref (α 0 0)), some (.int (J b)), some (.int (J a1))] [] h 1 6 (TQ "java/lang/IndexOutOfBoundsException" h)
  have q1 := wo_nC hW.1
  have q3 := wo_nS hW.1
  refine ev_ald0 1 dX11_transcriptAt_0 rfl ?_
  refine ev_getfield 4 13 9 fl_X11_48_13 (tr0 hT) rfl dX11_transcriptAt_1 rfl ?_
  refine ev_ald0 5 dX11_transcriptAt_4 rfl ?_
  refine ev_ild1 6 dX11_transcriptAt_5 rfl ?_
  exact tx_V1 9 13 dX11_transcriptAt_6 lkv_X11_93 (tr0 hT) rfl rfl (by first | decide | omega) (Nat.le_of_ble_eq_true rfl) rfl (by decide) (by decide) (c_X11_studentAt_no hT hW hb hn) ⟨rfl, rfl⟩
set_option maxRecDepth 100000 in
set_option maxHeartbeats 4000000 in
theorem c_X11_transcriptLength_ok {g : Gt} {α : AL} {ν : Nat → Nat → Bool} {X : XM} {h : AH} (hT : TR g α ν X h) (hW : WX ν X) {s : Nat} (hs0 : (s : Int) < nS X) : Mu g α ν M_X11_transcriptLength 28 [.ref (α 0 0), .int (J (s : Int))] h (some (.int (J ((allL X s (nC X).toNat).length : Int)))) (fun X' => WT X (allL X s (nC X).toNat) X') := by
  refine mu_of rfl rfl (ls := [some (.ref (α 0 0)), some (.int (J (s : Int)))]) rfl (Nat.le_of_ble_eq_true rfl) ?_
  show Ev g M_X11_transcriptLength 28 0 [some (.ref (α 0 0)), some (.int (J (s : Int)))] [] h 0 0 (UQ g α ν (some (.int (J ((allL X s (nC X).toNat).length : Int)))) (fun X' => WT X (allL X s (nC X).toNat) X'))
  have q1 := wo_nC hW.1
  have q3 := wo_nS hW.1
  have hs := wx_stu hW hs0
  have hl : s < 17 := by omega
  have hO := hW.1
  have han := allL_n hW.1 hs0 (nC X).toNat (by omega)
  refine ev_ald0 1 dX11_transcriptLength_0 rfl ?_
  refine ev_getfield 4 13 9 fl_X11_48_13 (tr0 hT) rfl dX11_transcriptLength_1 rfl ?_
  refine ev_ald0 5 dX11_transcriptLength_4 rfl ?_
  refine ev_ild1 6 dX11_transcriptLength_5 rfl ?_
  refine tc_V1 9 13 dX11_transcriptLength_6 lkv_X11_93 (tr0 hT) rfl rfl (by first | decide | omega) (Nat.le_of_ble_eq_true rfl) (c_X11_studentAt_ok hT hW (by omega)) ?_
  refine ev_ald0 10 dX11_transcriptLength_9 rfl ?_
  refine ev_getfield 13 13 0 fl_X11_12_13 (tr0 hT) rfl dX11_transcriptLength_10 rfl ?_
  refine tc_V0 16 2 dX11_transcriptLength_13 lkv_X11_70 (tr1_0 hT) rfl rfl (by first | decide | omega) (Nat.le_of_ble_eq_true rfl) (z_C hT hW) ?_
  refine tmv_V2 19 12 dX11_transcriptLength_16 lkv_X11_331 (tr27 hT) rfl rfl (by first | decide | omega) (Nat.le_of_ble_eq_true rfl) (c_X10_write hT hW hs0) (fun h X1 hT hP16 => ?_)
  have hI := hP16
  obtain ⟨p1, p2, p3⟩ := hI
  have hI : WT X (allL X s (nC X).toNat) X1 := ⟨p1, p2, p3⟩
  refine ev_ald0 20 dX11_transcriptLength_19 rfl ?_
  refine ev_getfield 23 13 9 fl_X11_48_13 (tr0 hT) rfl dX11_transcriptLength_20 rfl ?_
  refine ev_getfield 26 12 1 fl_X11_334_12 (tr27 hT) rfl dX11_transcriptLength_23 rfl ?_
  exact ev_ireturn (uq_i (by first | rfl | omega | exact bi_dt (by omega) | exact bi_df (by omega) | (exact p2)) hT (by exact hI)) rfl dX11_transcriptLength_26
set_option maxRecDepth 100000 in
set_option maxHeartbeats 4000000 in
theorem c_X11_transcriptAt_ok {g : Gt} {α : AL} {ν : Nat → Nat → Bool} {X : XM} {h : AH} (hT : TR g α ν X h) (hW : WX ν X) {s : Nat} (hs0 : (s : Int) < nS X) {i : Nat} (hi : i < (allL X s (nC X).toNat).length) : Mu g α ν M_X11_transcriptAt 28 [.ref (α 0 0), .int (J (s : Int)), .int (J (i : Int))] h (some (.int (J ((allL X s (nC X).toNat).getD i 0)))) (fun X' => WT X (allL X s (nC X).toNat) X') := by
  refine mu_of rfl rfl (ls := [some (.ref (α 0 0)), some (.int (J (s : Int))), some (.int (J (i : Int)))]) rfl (Nat.le_of_ble_eq_true rfl) ?_
  show Ev g M_X11_transcriptAt 28 0 [some (.ref (α 0 0)), some (.int (J (s : Int))), some (.int (J (i : Int)))] [] h 0 0 (UQ g α ν (some (.int (J ((allL X s (nC X).toNat).getD i 0)))) (fun X' => WT X (allL X s (nC X).toNat) X'))
  have q1 := wo_nC hW.1
  have q3 := wo_nS hW.1
  have hs := wx_stu hW hs0
  have hl : s < 17 := by omega
  have hO := hW.1
  have han := allL_n hW.1 hs0 (nC X).toNat (by omega)
  refine ev_ald0 1 dX11_transcriptAt_0 rfl ?_
  refine ev_getfield 4 13 9 fl_X11_48_13 (tr0 hT) rfl dX11_transcriptAt_1 rfl ?_
  refine ev_ald0 5 dX11_transcriptAt_4 rfl ?_
  refine ev_ild1 6 dX11_transcriptAt_5 rfl ?_
  refine tc_V1 9 13 dX11_transcriptAt_6 lkv_X11_93 (tr0 hT) rfl rfl (by first | decide | omega) (Nat.le_of_ble_eq_true rfl) (c_X11_studentAt_ok hT hW (by omega)) ?_
  refine ev_ald0 10 dX11_transcriptAt_9 rfl ?_
  refine ev_getfield 13 13 0 fl_X11_12_13 (tr0 hT) rfl dX11_transcriptAt_10 rfl ?_
  refine tc_V0 16 2 dX11_transcriptAt_13 lkv_X11_70 (tr1_0 hT) rfl rfl (by first | decide | omega) (Nat.le_of_ble_eq_true rfl) (z_C hT hW) ?_
  refine tmv_V2 19 12 dX11_transcriptAt_16 lkv_X11_331 (tr27 hT) rfl rfl (by first | decide | omega) (Nat.le_of_ble_eq_true rfl) (c_X10_write hT hW hs0) (fun h X1 hT hP16 => ?_)
  have hI := hP16
  obtain ⟨p1, p2, p3⟩ := hI
  have hI : WT X (allL X s (nC X).toNat) X1 := ⟨p1, p2, p3⟩
  refine ev_ild2 20 dX11_transcriptAt_19 rfl ?_
  refine tj_if_lt 34 23 dX11_transcriptAt_20 (by decide) rfl (by first | exact TR.rng hT _ _ _ | exact R31_of _ | exact bi_R _ | (constructor <;> omega)) (fun c20 => ?_) (fun c20 => ?_)
  · exact False.elim (by omega)
  · skip
    refine ev_ild2 24 dX11_transcriptAt_23 rfl ?_
    refine ev_ald0 25 dX11_transcriptAt_24 rfl ?_
    refine ev_getfield 28 13 9 fl_X11_48_13 (tr0 hT) rfl dX11_transcriptAt_25 rfl ?_
    refine ev_getfield 31 12 1 fl_X11_334_12 (tr27 hT) rfl dX11_transcriptAt_28 rfl ?_
    refine tj_icmp_lt 45 34 dX11_transcriptAt_31 (by decide) rfl (by first | exact TR.rng hT _ _ _ | exact R31_of _ | exact bi_R _ | (constructor <;> omega)) (by first | exact TR.rng hT _ _ _ | exact R31_of _ | exact bi_R _ | (constructor <;> omega)) (fun c31 => ?_) (fun c31 => ?_)
    · skip
      refine ev_ald0 46 dX11_transcriptAt_45 rfl ?_
      refine ev_getfield 49 13 9 fl_X11_48_13 (tr0 hT) rfl dX11_transcriptAt_46 rfl ?_
      refine ev_getfield 52 12 0 fl_X11_342_12 (tr27 hT) rfl dX11_transcriptAt_49 rfl ?_
      refine ev_ild2 53 dX11_transcriptAt_52 rfl ?_
      refine tv_cald 54 (tr28 hT) (i) (by omega) (by omega) (by omega) dX11_transcriptAt_53 rfl ?_
      exact tz_retcU (by first | rfl | omega | exact bi_dt (by omega) | exact bi_df (by omega) | (exact p3 i hi)) (allL_R hO hs0 (c := 0) rfl hi) hT (by exact hI) rfl dX11_transcriptAt_54
    · exact False.elim (by omega)
set_option maxRecDepth 100000 in
set_option maxHeartbeats 4000000 in
theorem c_X11_transcriptAt_x1 {g : Gt} {α : AL} {ν : Nat → Nat → Bool} {X : XM} {h : AH} (hT : TR g α ν X h) (hW : WX ν X) {s : Nat} (hs0 : (s : Int) < nS X) {a1 : Int} (ha1 : R31 a1) (hi : ¬ (0 ≤ a1 ∧ a1 < (allL X s (nC X).toNat).length)) : Tu g α ν M_X11_transcriptAt 28 [.ref (α 0 0), .int (J (s : Int)), .int (J a1)] h "java/lang/IndexOutOfBoundsException" (fun X' => WT X (allL X s (nC X).toNat) X') := by
  refine tu_of rfl rfl (ls := [some (.ref (α 0 0)), some (.int (J (s : Int))), some (.int (J a1))]) rfl (Nat.le_of_ble_eq_true rfl) ?_
  show Ev g M_X11_transcriptAt 28 0 [some (.ref (α 0 0)), some (.int (J (s : Int))), some (.int (J a1))] [] h 1 6 (VQ g α ν "java/lang/IndexOutOfBoundsException" (fun X' => WT X (allL X s (nC X).toNat) X'))
  have q1 := wo_nC hW.1
  have q3 := wo_nS hW.1
  have hs := wx_stu hW hs0
  have hl : s < 17 := by omega
  have hO := hW.1
  have han := allL_n hW.1 hs0 (nC X).toNat (by omega)
  refine ev_ald0 1 dX11_transcriptAt_0 rfl ?_
  refine ev_getfield 4 13 9 fl_X11_48_13 (tr0 hT) rfl dX11_transcriptAt_1 rfl ?_
  refine ev_ald0 5 dX11_transcriptAt_4 rfl ?_
  refine ev_ild1 6 dX11_transcriptAt_5 rfl ?_
  refine tc_V1 9 13 dX11_transcriptAt_6 lkv_X11_93 (tr0 hT) rfl rfl (by first | decide | omega) (Nat.le_of_ble_eq_true rfl) (c_X11_studentAt_ok hT hW (by omega)) ?_
  refine ev_ald0 10 dX11_transcriptAt_9 rfl ?_
  refine ev_getfield 13 13 0 fl_X11_12_13 (tr0 hT) rfl dX11_transcriptAt_10 rfl ?_
  refine tc_V0 16 2 dX11_transcriptAt_13 lkv_X11_70 (tr1_0 hT) rfl rfl (by first | decide | omega) (Nat.le_of_ble_eq_true rfl) (z_C hT hW) ?_
  refine tmv_V2 19 12 dX11_transcriptAt_16 lkv_X11_331 (tr27 hT) rfl rfl (by first | decide | omega) (Nat.le_of_ble_eq_true rfl) (c_X10_write hT hW hs0) (fun h X1 hT hP16 => ?_)
  have hI := hP16
  obtain ⟨p1, p2, p3⟩ := hI
  have hI : WT X (allL X s (nC X).toNat) X1 := ⟨p1, p2, p3⟩
  refine ev_ild2 20 dX11_transcriptAt_19 rfl ?_
  refine tj_if_lt 34 23 dX11_transcriptAt_20 (by decide) rfl (by first | exact TR.rng hT _ _ _ | exact R31_of _ | exact bi_R _ | (constructor <;> omega)) (fun c20 => ?_) (fun c20 => ?_)
  · skip
    exact ev_throwSW th_X11_337_339_341 rfl ⟨rfl, _, hT, (by exact hI)⟩ (by decide) (by decide) dX11_transcriptAt_34 dX11_transcriptAt_37 dX11_transcriptAt_38 dX11_transcriptAt_41 dX11_transcriptAt_44 (by decide) (by decide)
  · skip
    refine ev_ild2 24 dX11_transcriptAt_23 rfl ?_
    refine ev_ald0 25 dX11_transcriptAt_24 rfl ?_
    refine ev_getfield 28 13 9 fl_X11_48_13 (tr0 hT) rfl dX11_transcriptAt_25 rfl ?_
    refine ev_getfield 31 12 1 fl_X11_334_12 (tr27 hT) rfl dX11_transcriptAt_28 rfl ?_
    refine tj_icmp_lt 45 34 dX11_transcriptAt_31 (by decide) rfl (by first | exact TR.rng hT _ _ _ | exact R31_of _ | exact bi_R _ | (constructor <;> omega)) (by first | exact TR.rng hT _ _ _ | exact R31_of _ | exact bi_R _ | (constructor <;> omega)) (fun c31 => ?_) (fun c31 => ?_)
    · exact False.elim (by omega)
    · skip
      exact ev_throwSW th_X11_337_339_341 rfl ⟨rfl, _, hT, (by exact hI)⟩ (by decide) (by decide) dX11_transcriptAt_34 dX11_transcriptAt_37 dX11_transcriptAt_38 dX11_transcriptAt_41 dX11_transcriptAt_44 (by decide) (by decide)
