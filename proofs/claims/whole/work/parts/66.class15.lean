/-! THE CLASS: the end of a term -/
theorem dtS_5 (X : XM) (s : Nat) : ∀ n, dtS X s n 5 = X 5
  | 0 => rfl
  | n + 1 => by
    rw [dtS, dtC, xs_nk (by decide)]
    split
    · rw [aa_k (by decide) (by decide) (by decide)]; exact dtS_5 X s n
    · exact dtS_5 X s n
theorem ctS_5 (X : XM) (s n c : Nat) : ctS X s n 5 s c = if c < n then 0 else X 5 s c := by
  rw [ctS_z5, z5_at, dtS_5]
set_option maxRecDepth 100000 in
set_option maxHeartbeats 4000000 in
theorem c_X8_closeTerm {g : Gt} {α : AL} {ν : Nat → Nat → Bool} {X : XM} {h : AH} (hT : TR g α ν X h) (hW : WX ν X) {s : Nat} (hs0 : (s : Int) < nS X) (hd : 5 < X 0 0 5) : Mu g α ν M_X8_closeTerm 5 [.ref (α 4 s)] h (some (.int (J (cnt (tak X s) 20)))) (fun X' => X' = ctS X s 20) := by
  refine mu_of rfl rfl (ls := [some (.ref (α 4 s)), none, none]) rfl (Nat.le_of_ble_eq_true rfl) ?_
  show Ev g M_X8_closeTerm 5 0 [some (.ref (α 4 s)), none, none] [] h 0 0 (UQ g α ν (some (.int (J (cnt (tak X s) 20)))) (fun X' => X' = ctS X s 20))
  have q1 := wo_nC hW.1
  have q3 := wo_nS hW.1
  have hs := wx_stu hW hs0
  have hl : s < 17 := by omega
  refine tj_iconst 1 dX8_closeTerm_0 rfl ?_
  refine ev_ist1 2 dX8_closeTerm_1 rfl (by decide) rfl ?_
  refine tj_iconst 3 dX8_closeTerm_2 rfl ?_
  refine ev_ist2 4 dX8_closeTerm_3 rfl (by decide) rfl ?_
  have lp4 : ∀ (n4 : Nat) (c : Nat) (z1 : Int) (z2 : Int)  (h : AH) (X2 : XM), 21 - c < n4 → (c ≤ 20) → z1 = cnt (tak X s) c → z2 = (c : Int) → TR g α ν X2 h → X2 = ctS X s c → Ev g M_X8_closeTerm 5 4 [some (.ref (α 4 s)), some (.int (J z1)), some (.int (J z2))] [] h 0 0 (UQ g α ν (some (.int (J (cnt (tak X s) 20)))) (fun X' => X' = ctS X s 20)) := by
    intro n4
    induction n4 with
    | zero => intro c z1 z2 h X2 hm; exact absurd hm (Nat.not_lt_zero _)
    | succ n4 ih4 =>
      intro c z1 z2 h X2 hm4 hc e1 e2 hT hI
      subst e1
      subst e2
      have hcn := cnt_0 (tak X s) c
      refine ev_ild2 5 dX8_closeTerm_4 rfl ?_
      refine tj_bipush 7 dX8_closeTerm_5 (by decide) rfl ?_
      refine tj_icmp_ge 57 10 dX8_closeTerm_7 (by decide) rfl (by first | exact TR.rng hT _ _ _ | exact R31_of _ | exact bi_R _ | (constructor <;> omega)) (by first | exact TR.rng hT _ _ _ | exact R31_of _ | exact bi_R _ | (constructor <;> omega)) (fun c7 => ?_) (fun c7 => ?_)
      · skip
        refine ev_ild1 58 dX8_closeTerm_57 rfl ?_
        exact ev_ireturn (uq_i (by first | rfl | omega | exact bi_dt (by omega) | exact bi_df (by omega) | (rw [show c = 20 by omega])) hT (by show X2 = _; rw [hI, show c = 20 by omega])) rfl dX8_closeTerm_58
      · skip
        have hO2 : WO X2 := by rw [hI]; exact wo_ctS hW.1 hs0 hd c (by omega)
        have en2 : nS X2 = nS X := by unfold nS; rw [hI, ctS_k (by decide) (by decide) (by decide) (by decide) (by decide)]
        have ht0 : 0 ≤ X2 9 s c := (wo_tri hO2 s c (by omega) (by omega)).1
        have htm := wo_tm hO2 s c (by omega) (by omega)
        have hre2 := etm_R hO2 (s := s) (c := c) (by omega) (by omega)
        have hre : R31 (etm X2 s c) := ⟨by omega, by omega⟩
        have e5 : X2 5 s c = X 5 s c := by rw [hI, ctS_5, if_neg (Nat.lt_irrefl c)]
        refine ev_ald0 11 dX8_closeTerm_10 rfl ?_
        refine ev_getfield 14 10 1 fl_X8_9_10 (tr4 hT (by first | assumption | exact wx_stu hW (by omega) | exact wx_crs hW (by omega) | exact wx_new hW) (by omega)) rfl dX8_closeTerm_11 rfl ?_
        refine ev_ild2 15 dX8_closeTerm_14 rfl ?_
        refine tv_zald 16 (tr5 hT (by first | assumption | exact wx_stu hW (by omega) | exact wx_crs hW (by omega) | exact wx_new hW) (by omega)) (c) (by omega) (by omega) (by omega) dX8_closeTerm_15 rfl ?_
        refine tj_if_eq 37 19 dX8_closeTerm_16 (by decide) rfl (by first | exact TR.rng hT _ _ _ | exact R31_of _ | exact bi_R _ | (constructor <;> omega)) (fun c16 => ?_) (fun c16 => ?_)
        · skip
          have hz : ¬ tak X2 s c = true := fun z => absurd c16 (of_decide_eq_true z)
          have hzX : ¬ tak X s c = true := fun z => absurd (e5.symm.trans c16) (of_decide_eq_true z)
          refine ev_ald0 38 dX8_closeTerm_37 rfl ?_
          refine ev_getfield 41 10 1 fl_X8_9_10 (tr4 hT (by first | assumption | exact wx_stu hW (by omega) | exact wx_crs hW (by omega) | exact wx_new hW) (by omega)) rfl dX8_closeTerm_38 rfl ?_
          refine ev_ild2 42 dX8_closeTerm_41 rfl ?_
          refine tj_iconst 43 dX8_closeTerm_42 rfl ?_
          refine tv_zast 44 hT (tv5 hT (by first | assumption | exact wx_stu hW (by omega) | exact wx_crs hW (by omega) | exact wx_new hW) (by omega)) (fun _ => rfl) (c) (by omega) (by omega) (by omega) (by first | omega | exact bi_01 _) dX8_closeTerm_43 rfl (fun h hT => ?_)
          refine ev_ald0 45 dX8_closeTerm_44 rfl ?_
          refine ev_getfield 48 10 3 fl_X8_18_10 (tr4 hT (by first | assumption | exact wx_stu hW (by omega) | exact wx_crs hW (by omega) | exact wx_new hW) (by omega)) rfl dX8_closeTerm_45 rfl ?_
          refine ev_ild2 49 dX8_closeTerm_48 rfl ?_
          refine tj_iconst 50 dX8_closeTerm_49 rfl ?_
          refine tv_iast 51 hT (tv7 hT (by first | assumption | exact wx_stu hW (by omega) | exact wx_crs hW (by omega) | exact wx_new hW) (by omega)) (fun _ => rfl) (c) (by omega) (by omega) (by omega) (by first | exact TR.rng hT _ _ _ | exact R31_of _ | exact bi_R _ | (constructor <;> omega)) dX8_closeTerm_50 rfl (fun h hT => ?_)
          refine tj_inc2 54 dX8_closeTerm_51 rfl (by decide) rfl ?_
          refine ev_goto 4 dX8_closeTerm_54 (by decide) ?_
          exact ih4 (c + 1) _ _ _ _ (by omega) (by first | omega | assumption | omega) (by first | rfl | omega | (first | (rw [cnt_s, if_pos hzX]) | (rw [cnt_s, if_neg hzX]; omega))) (by first | rfl | omega | (first | (rw [cnt_s, if_pos hzX]) | (rw [cnt_s, if_neg hzX]; omega))) hT (by first | assumption | (first | rfl | (rw [ctS, ← hI, ctC]; first | rw [if_pos hz, ← hP31] | rw [if_neg hz])))
        · skip
          have hz : tak X2 s c = true := decide_eq_true c16
          have hzX : tak X s c = true := decide_eq_true (fun z => c16 (e5.trans z))
          refine ev_ald0 20 dX8_closeTerm_19 rfl ?_
          refine ev_ild2 21 dX8_closeTerm_20 rfl ?_
          refine tj_iconst 22 dX8_closeTerm_21 rfl ?_
          refine ev_ald0 23 dX8_closeTerm_22 rfl ?_
          refine ev_getfield 26 10 3 fl_X8_18_10 (tr4 hT (by first | assumption | exact wx_stu hW (by omega) | exact wx_crs hW (by omega) | exact wx_new hW) (by omega)) rfl dX8_closeTerm_23 rfl ?_
          refine ev_ild2 27 dX8_closeTerm_26 rfl ?_
          refine tv_iald 28 (tr7 hT (by first | assumption | exact wx_stu hW (by omega) | exact wx_crs hW (by omega) | exact wx_new hW) (by omega)) (c) (by omega) (by omega) (by omega) dX8_closeTerm_27 rfl ?_
          refine tj_mmax 31 dX8_closeTerm_28 mmax_X8_43 (by decide) (Nat.le_of_ble_eq_true rfl) rfl (by first | exact TR.rng hT _ _ _ | exact R31_of _ | exact bi_R _ | (constructor <;> omega)) (by first | exact TR.rng hT _ _ _ | exact R31_of _ | exact bi_R _ | (constructor <;> omega)) ?_
          refine tmv_V2 34 10 dX8_closeTerm_31 lkv_X8_49 (tr4 hT (by first | assumption | exact wx_stu hW (by omega) | exact wx_crs hW (by omega) | exact wx_new hW) (by omega)) rfl rfl (by first | decide | omega) (Nat.le_of_ble_eq_true rfl) (c_X8_addAttempt hT hs hl (by omega) hre ht0) (fun h X1 hT hP31 => ?_)
          have hP31 : X1 = aa X2 s c (etm X2 s c) := hP31
          refine tj_inc1 37 dX8_closeTerm_34 rfl (by decide) rfl ?_
          refine ev_ald0 38 dX8_closeTerm_37 rfl ?_
          refine ev_getfield 41 10 1 fl_X8_9_10 (tr4 hT (by first | assumption | exact wx_stu hW (by omega) | exact wx_crs hW (by omega) | exact wx_new hW) (by omega)) rfl dX8_closeTerm_38 rfl ?_
          refine ev_ild2 42 dX8_closeTerm_41 rfl ?_
          refine tj_iconst 43 dX8_closeTerm_42 rfl ?_
          refine tv_zast 44 hT (tv5 hT (by first | assumption | exact wx_stu hW (by omega) | exact wx_crs hW (by omega) | exact wx_new hW) (by omega)) (fun _ => rfl) (c) (by omega) (by omega) (by omega) (by first | omega | exact bi_01 _) dX8_closeTerm_43 rfl (fun h hT => ?_)
          refine ev_ald0 45 dX8_closeTerm_44 rfl ?_
          refine ev_getfield 48 10 3 fl_X8_18_10 (tr4 hT (by first | assumption | exact wx_stu hW (by omega) | exact wx_crs hW (by omega) | exact wx_new hW) (by omega)) rfl dX8_closeTerm_45 rfl ?_
          refine ev_ild2 49 dX8_closeTerm_48 rfl ?_
          refine tj_iconst 50 dX8_closeTerm_49 rfl ?_
          refine tv_iast 51 hT (tv7 hT (by first | assumption | exact wx_stu hW (by omega) | exact wx_crs hW (by omega) | exact wx_new hW) (by omega)) (fun _ => rfl) (c) (by omega) (by omega) (by omega) (by first | exact TR.rng hT _ _ _ | exact R31_of _ | exact bi_R _ | (constructor <;> omega)) dX8_closeTerm_50 rfl (fun h hT => ?_)
          refine tj_inc2 54 dX8_closeTerm_51 rfl (by decide) rfl ?_
          refine ev_goto 4 dX8_closeTerm_54 (by decide) ?_
          exact ih4 (c + 1) _ _ _ _ (by omega) (by first | omega | assumption | omega) (by first | rfl | omega | (first | (rw [cnt_s, if_pos hzX]) | (rw [cnt_s, if_neg hzX]; omega))) (by first | rfl | omega | (first | (rw [cnt_s, if_pos hzX]) | (rw [cnt_s, if_neg hzX]; omega))) hT (by first | assumption | (first | rfl | (rw [ctS, ← hI, ctC]; first | rw [if_pos hz, ← hP31] | rw [if_neg hz])))
  exact lp4 _ (0) _ _ _ _ (Nat.lt_succ_self _) (by first | omega | assumption | omega) (by first | rfl | omega | (first | (rw [cnt_s, if_pos hzX]) | (rw [cnt_s, if_neg hzX]; omega))) (by first | rfl | omega | (first | (rw [cnt_s, if_pos hzX]) | (rw [cnt_s, if_neg hzX]; omega))) hT (by first | assumption | (first | rfl | (rw [ctS, ← hI, ctC]; first | rw [if_pos hz, ← hP31] | rw [if_neg hz])))
