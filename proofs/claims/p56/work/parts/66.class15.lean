/-! THE CLASS: the end of a term -/
theorem dtS_5 (X : XM) (s : Nat) : ∀ n, dtS X s n 5 = X 5
  | 0 => rfl
  | n + 1 => by
    rw [dtS, dtC, xs_nk (by decide)]
    split
    · rw [aa_k (by decide) (by decide) (by decide)]; exact dtS_5 X s n
    · exact dtS_5 X s n
theorem ctS_5 (X : XM) (s n c : Nat) : ctS X s n 5 s c = if c < n then 0 else X 5 s c := by
  rw [ctS_z5, z5_at, dtS_5]
set_option maxRecDepth 100000 in
set_option maxHeartbeats 4000000 in
theorem c_X8_closeTerm {g : Gt} {α : AL} {ν : Nat → Nat → Bool} {X : XM} {h : AH} (hT : TR g α ν X h) (hW : WX ν X) {s : Nat} (hs0 : (s : Int) < nS X) (hd : 5 < X 0 0 5) : Mu g α ν M_X8_closeTerm 5 [.ref (α 4 s)] h (some (.int (J (cnt (tak X s) 20)))) (fun X' => X' = ctS X s 20) := by
  refine mu_of rfl rfl (ls := [some (.ref (α 4 s)), none, none]) rfl (Nat.le_of_ble_eq_true rfl) ?_
  show Ev g M_X8_closeTerm 5 0 [some (.ref (α 4 s)), none, none] [] h 0 0 (UQ g α ν (some (.int (J (cnt (tak X s) 20)))) (fun X' => X' = ctS X s 20))
  have q1 := wo_nC hW.1
  have q3 := wo_nS hW.1
  have hs := wx_stu hW hs0
  have hl : s < 17 := by omega
  refine tj_iconst 1 dX8_closeTerm_0 rfl ?_
  refine ev_ist1 2 dX8_closeTerm_1 rfl (by decide) rfl ?_
  refine tj_iconst 3 dX8_closeTerm_2 rfl ?_
  refine ev_ist2 4 dX8_closeTerm_3 rfl (by decide) rfl ?_
  have lp4 : ∀ (n4 : Nat) (c : Nat) (z1 : Int) (z2 : Int)  (h : AH) (X2 : XM), 21 - c < n4 → (c ≤ 20) → z1 = cnt (tak X s) c → z2 = (c : Int) → TR g α ν X2 h → X2 = ctS X s c → Ev g M_X8_closeTerm 5 4 [some (.ref (α 4 s)), some (.int (J z1)), some (.int (J z2))] [] h 0 0 (UQ g α ν (some (.int (J (cnt (tak X s) 20)))) (fun X' => X' = ctS X s 20)) := by
    intro n4
    induction n4 with
    | zero => intro c z1 z2 h X2 hm; exact absurd hm (Nat.not_lt_zero _)
    | succ n4 ih4 =>
      intro c z1 z2 h X2 hm4 hc e1 e2 hT hI
      subst e1
      subst e2
      have hcn := cnt_0 (tak X s) c
      refine ev_ild2 5 dX8_closeTerm_4 rfl ?_
      refine tj_bipush 7 dX8_closeTerm_5 (by decide) rfl ?_
      refine tj_icmp_ge 57 10 dX8_closeTerm_7 (by decide) rfl (by first | exact TR.rng hT _ _ _ | exact R31_of _ | exact bi_R _ | (constructor <;> omega)) (by first | exact TR.rng hT _ _ _ | exact R31_of _ | exact bi_R _ | (constructor <;> omega)) (fun c7 => ?_) (fun c7 => ?_)
      · skip
        refine ev_ild1 58 dX8_closeTerm_57 rfl ?_
        exact ev_ireturn (uq_i (by first | rfl | omega | exact bi_dt (by omega) | exact bi_df (by omega) | (rw [show c = 20 by omega])) hT (by show X2 = _; rw [hI, show c = 20 by omega])) rfl dX8_closeTerm_58
      · skip
        have hO2 : WO X2 := by rw [hI]; exact wo_ctS hW.1 hs0 hd c (by omega)
        have en2 : nS X2 = nS X := by unfold nS; rw [hI, ctS_k (by decide) (by decide) (by decide) (by decide) (by decide)]
        have ht0 : 0 ≤ X2 9 s c := (wo_tri hO2 s c (by omega) (by omega)).1
        have htm := wo_tm hO2 s c (by omega) (by omega)
        have hre2 := etm_R hO2 (s := s) (c := c) (by omega) (by omega)
        have hre : R31 (etm X2 s c) := ⟨by omega, by omega⟩
        have e5 : X2 5 s c = X 5 s c := by rw [hI, ctS_5, if_neg (Nat.lt_irrefl c)]
        refine ev_ald0 11 dX8_closeTerm_10 rfl ?_
        refine ev_getfield 14 10 1 fl_X8_9_10 (tr4 hT (by first | assumption | exact wx_stu hW (by omega) | exact wx_crs hW (by omega) | exact wx_new hW) (by omega)) rfl dX8_closeTerm_11 rfl ?_
        refine ev_ild2 15 dX8_closeTerm_14 rfl ?_
        refine tv_zald 16 (tr5 hT (by first | assumption | exact wx_stu hW (by omega) | exact wx_crs hW (by omega) | exact wx_new hW) (by omega)) (c) (by omega) (by omega) (by omega) dX8_closeTerm_15 rfl ?_
        refine tj_if_eq 37 19 dX8_closeTerm_16 (by decide) rfl (by first | exact TR.rng hT _ _ _ | exact R31_of _ | exact bi_R _ | (constructor <;> omega)) (fun c16 => ?_) (fun c16 => ?_)
        · skip
          have hz : ¬ tak X2 s c = true := fun z => absurd c16 (of_decide_eq_true z)
          have hzX : ¬ tak X s c = true := fun z => absurd (e5.symm.trans c16) (of_decide_eq_true z)
          refine ev_ald0 38 dX8_closeTerm_37 rfl ?_
          refine ev_getfield 41 10 1 fl_X8_9_10 (tr4 hT (by first | assumption | exact wx_stu hW (by omega) | exact wx_crs hW (by omega) | exact wx_new hW) (by omega)) rfl dX8_closeTerm_38 rfl ?_
          refine ev_ild2 42 dX8_closeTerm_41 rfl ?_
          refine tj_iconst 43 dX8_closeTerm_42 rfl ?_
          refine tv_zast 44 hT (tv5 hT (by first | assumption | exact wx_stu hW (by omega) | exact wx_crs hW (by omega) | exact wx_new hW) (by omega)) (fun _ => rfl) (c) (by omega) (by omega) (by omega) (by first | omega | exact bi_01 _) dX8_closeTerm_43 rfl (fun h hT => ?_)
          refine ev_ald0 45 dX8_closeTerm_44 rfl ?_
          refine ev_getfield 48 10 3 fl_X8_18_10 (tr4 hT (by first | assumption | exact wx_stu hW (by omega) | exact wx_crs hW (by omega) | exact wx_new hW) (by omega)) rfl dX8_closeTerm_45 rfl ?_
          refine ev_ild2 49 dX8_closeTerm_48 rfl ?_
          refine tj_iconst 50 dX8_closeTerm_49 rfl ?_
          refine tv_iast 51 hT (tv7 hT (by first | assumption | exact wx_stu hW (by omega) | exact wx_crs hW (by omega) | exact wx_new hW) (by omega)) (fun _ => rfl) (c) (by omega) (by omega) (by omega) (by first | exact TR.rng hT _ _ _ | exact R31_of _ | exact bi_R _ | (constructor <;> omega)) dX8_closeTerm_50 rfl (fun h hT => ?_)
          refine tj_inc2 54 dX8_closeTerm_51 rfl (by decide) rfl ?_
          refine ev_goto 4 dX8_closeTerm_54 (by decide) ?_
          exact ih4 (c + 1) _ _ _ _ (by omega) (by first | omega | assumption | omega) (by first | rfl | omega | (first | (rw [cnt_s, if_pos hzX]) | (rw [cnt_s, if_neg hzX]; omega))) (by first | rfl | omega | (first | (rw [cnt_s, if_pos hzX]) | (rw [cnt_s, if_neg hzX]; omega))) hT (by first | assumption | (first | rfl | (rw [ctS, ← hI, ctC]; first | rw [if_pos hz, ← hP31] | rw [if_neg hz])))
        · skip
          have hz : tak X2 s c = true := decide_eq_true c16
          have hzX : tak X s c = true := decide_eq_true (fun z => c16 (e5.trans z))
          refine ev_ald0 20 dX8_closeTerm_19 rfl ?_
          refine ev_ild2 21 dX8_closeTerm_20 rfl ?_
          refine tj_iconst 22 dX8_closeTerm_21 rfl ?_
          refine ev_ald0 23 dX8_closeTerm_22 rfl ?_
          refine ev_getfield 26 10 3 fl_X8_18_10 (tr4 hT (by first | assumption | exact wx_stu hW (by omega) | exact wx_crs hW (by omega) | exact wx_new hW) (by omega)) rfl dX8_closeTerm_23 rfl ?_
          refine ev_ild2 27 dX8_closeTerm_26 rfl ?_
          refine tv_iald 28 (tr7 hT (by first | assumption | exact wx_stu hW (by omega) | exact wx_crs hW (by omega) | exact wx_new hW) (by omega)) (c) (by omega) (by omega) (by omega) dX8_closeTerm_27 rfl ?_
          refine tj_mmax 31 dX8_closeTerm_28 mmax_X8_43 (by decide) (Nat.le_of_ble_eq_true rfl) rfl (by first | exact TR.rng hT _ _ _ | exact R31_of _ | exact bi_R _ | (constructor <;> omega)) (by first | exact TR.rng hT _ _ _ | exact R31_of _ | exact bi_R _ | (constructor <;> omega)) ?_
          refine tmv_V2 34 10 dX8_closeTerm_31 lkv_X8_49 (tr4 hT (by first | assumption | exact wx_stu hW (by omega) | exact wx_crs hW (by omega) | exact wx_new hW) (by omega)) rfl rfl (by first | decide | omega) (Nat.le_of_ble_eq_true rfl) (c_X8_addAttempt hT hs hl (by omega) hre ht0) (fun h X1 hT hP31 => ?_)
          have hP31 : X1 = aa X2 s c (etm X2 s c) := hP31
          refine tj_inc1 37 dX8_closeTerm_34 rfl (by decide) rfl ?_
          refine ev_ald0 38 dX8_closeTerm_37 rfl ?_
          refine ev_getfield 41 10 1 fl_X8_9_10 (tr4 hT (by first | assumption | exact wx_stu hW (by omega) | exact wx_crs hW (by omega) | exact wx_new hW) (by omega)) rfl dX8_closeTerm_38 rfl ?_
          refine ev_ild2 42 dX8_closeTerm_41 rfl ?_
          refine tj_iconst 43 dX8_closeTerm_42 rfl ?_
          refine tv_zast 44 hT (tv5 hT (by first | assumption | exact wx_stu hW (by omega) | exact wx_crs hW (by omega) | exact wx_new hW) (by omega)) (fun _ => rfl) (c) (by omega) (by omega) (by omega) (by first | omega | exact bi_01 _) dX8_closeTerm_43 rfl (fun h hT => ?_)
          refine ev_ald0 45 dX8_closeTerm_44 rfl ?_
          refine ev_getfield 48 10 3 fl_X8_18_10 (tr4 hT (by first | assumption | exact wx_stu hW (by omega) | exact wx_crs hW (by omega) | exact wx_new hW) (by omega)) rfl dX8_closeTerm_45 rfl ?_
          refine ev_ild2 49 dX8_closeTerm_48 rfl ?_
          refine tj_iconst 50 dX8_closeTerm_49 rfl ?_
          refine tv_iast 51 hT (tv7 hT (by first | assumption | exact wx_stu hW (by omega) | exact wx_crs hW (by omega) | exact wx_new hW) (by omega)) (fun _ => rfl) (c) (by omega) (by omega) (by omega) (by first | exact TR.rng hT _ _ _ | exact R31_of _ | exact bi_R _ | (constructor <;> omega)) dX8_closeTerm_50 rfl (fun h hT => ?_)
          refine tj_inc2 54 dX8_closeTerm_51 rfl (by decide) rfl ?_
          refine ev_goto 4 dX8_closeTerm_54 (by decide) ?_
          exact ih4 (c + 1) _ _ _ _ (by omega) (by first | omega | assumption | omega) (by first | rfl | omega | (first | (rw [cnt_s, if_pos hzX]) | (rw [cnt_s, if_neg hzX]; omega))) (by first | rfl | omega | (first | (rw [cnt_s, if_pos hzX]) | (rw [cnt_s, if_neg hzX]; omega))) hT (by first | assumption | (first | rfl | (rw [ctS, ← hI, ctC]; first | rw [if_pos hz, ← hP31] | rw [if_neg hz])))
  exact lp4 _ (0) _ _ _ _ (Nat.lt_succ_self _) (by first | omega | assumption | omega) (by first | rfl | omega | (first | (rw [cnt_s, if_pos hzX]) | (rw [cnt_s, if_neg hzX]; omega))) (by first | rfl | omega | (first | (rw [cnt_s, if_pos hzX]) | (rw [cnt_s, if_neg hzX]; omega))) hT (by first | assumption | (first | rfl | (rw [ctS, ← hI, ctC]; first | rw [if_pos hz, ← hP31] | rw [if_neg hz])))
set_option maxHeartbeats 2000000 in
theorem wo_te {X : XM} (h : WO X) {t : Int} (ht : 0 ≤ t ∧ t ≤ 1000000) : WO (xs X 0 0 6 t) := by
  have m1 : xs X 0 0 6 t 1 = X 1 := xs_nk (by decide)
  have m2 : xs X 0 0 6 t 2 = X 2 := xs_nk (by decide)
  have k3 : (xs X 0 0 6 t) 3 = X 3 := xs_nk (by decide)
  have k4 : (xs X 0 0 6 t) 4 = X 4 := xs_nk (by decide)
  have k5 : (xs X 0 0 6 t) 5 = X 5 := xs_nk (by decide)
  have k6 : (xs X 0 0 6 t) 6 = X 6 := xs_nk (by decide)
  have k7 : (xs X 0 0 6 t) 7 = X 7 := xs_nk (by decide)
  have k8 : (xs X 0 0 6 t) 8 = X 8 := xs_nk (by decide)
  have k9 : (xs X 0 0 6 t) 9 = X 9 := xs_nk (by decide)
  have k11 : (xs X 0 0 6 t) 11 = X 11 := xs_nk (by decide)
  have k12 : (xs X 0 0 6 t) 12 = X 12 := xs_nk (by decide)
  have k13 : (xs X 0 0 6 t) 13 = X 13 := xs_nk (by decide)
  have k14 : (xs X 0 0 6 t) 14 = X 14 := xs_nk (by decide)
  have k15 : (xs X 0 0 6 t) 15 = X 15 := xs_nk (by decide)
  have k16 : (xs X 0 0 6 t) 16 = X 16 := xs_nk (by decide)
  have l0 : (xs X 0 0 6 t) 1 0 2 = X 1 0 2 := by rw [xs_nk (by decide)]
  have l1 : (xs X 0 0 6 t) 1 1 2 = X 1 1 2 := by rw [xs_nk (by decide)]
  have l2 : (xs X 0 0 6 t) 1 2 2 = X 1 2 2 := by rw [xs_nk (by decide)]
  have l3 : (xs X 0 0 6 t) 1 3 2 = X 1 3 2 := by rw [xs_nk (by decide)]
  have kb : bsT (xs X 0 0 6 t) = bsT X := bsT_cg k6 k11
  refine ⟨?_, ?_, ?_, ?_, ?_, ?_, ?_, ?_, ?_, ?_, ?_, ?_, ?_, ?_, ?_, ?_, ?_, ?_, ?_, ?_, ?_, ?_, ?_, ?_, ?_, ?_, ?_, ?_, ?_, ?_, ?_, ?_, ?_, ?_, ?_, ?_, ?_, trivial⟩
  · -- nC
    simp only [nC, nS, nF, nR, k3, k4, k5, k6, k7, k8, k9, k11, k12, k13, k14, k15, k16, l0, l1, l2, l3, kb]; exact wo_nC h
  · -- nS
    simp only [nC, nS, nF, nR, k3, k4, k5, k6, k7, k8, k9, k11, k12, k13, k14, k15, k16, l0, l1, l2, l3, kb]; exact wo_nS h
  · -- nF
    simp only [nC, nS, nF, nR, k3, k4, k5, k6, k7, k8, k9, k11, k12, k13, k14, k15, k16, l0, l1, l2, l3, kb]; exact wo_nF h
  · -- nR
    simp only [nC, nS, nF, nR, k3, k4, k5, k6, k7, k8, k9, k11, k12, k13, k14, k15, k16, l0, l1, l2, l3, kb]; exact wo_nR h
  · -- day
    rw [xs_at, if_neg (by decide)]; exact wo_day h
  · -- term
    rw [xs_at, if_pos rfl]; exact ht
  · -- crd
    simp only [nC, nS, nF, nR, k3, k4, k5, k6, k7, k8, k9, k11, k12, k13, k14, k15, k16, l0, l1, l2, l3, kb]; exact wo_crd h
  · -- sea
    simp only [nC, nS, nF, nR, k3, k4, k5, k6, k7, k8, k9, k11, k12, k13, k14, k15, k16, l0, l1, l2, l3, kb]; exact wo_sea h
  · -- req
    simp only [nC, nS, nF, nR, k3, k4, k5, k6, k7, k8, k9, k11, k12, k13, k14, k15, k16, l0, l1, l2, l3, kb]; exact wo_req h
  · -- res
    simp only [nC, nS, nF, nR, k3, k4, k5, k6, k7, k8, k9, k11, k12, k13, k14, k15, k16, l0, l1, l2, l3, kb]; exact wo_res h
  · -- wN
    simp only [nC, nS, nF, nR, k3, k4, k5, k6, k7, k8, k9, k11, k12, k13, k14, k15, k16, l0, l1, l2, l3, kb]; exact wo_wN h
  · -- wA
    simp only [nC, nS, nF, nR, k3, k4, k5, k6, k7, k8, k9, k11, k12, k13, k14, k15, k16, l0, l1, l2, l3, kb]; exact wo_wA h
  · -- maj
    simp only [nC, nS, nF, nR, k3, k4, k5, k6, k7, k8, k9, k11, k12, k13, k14, k15, k16, l0, l1, l2, l3, kb]; exact wo_maj h
  · -- t01
    simp only [nC, nS, nF, nR, k3, k4, k5, k6, k7, k8, k9, k11, k12, k13, k14, k15, k16, l0, l1, l2, l3, kb]; exact wo_t01 h
  · -- m01
    simp only [nC, nS, nF, nR, k3, k4, k5, k6, k7, k8, k9, k11, k12, k13, k14, k15, k16, l0, l1, l2, l3, kb]; exact wo_m01 h
  · -- tm
    simp only [nC, nS, nF, nR, k3, k4, k5, k6, k7, k8, k9, k11, k12, k13, k14, k15, k16, l0, l1, l2, l3, kb]; exact wo_tm h
  · -- bst
    simp only [nC, nS, nF, nR, k3, k4, k5, k6, k7, k8, k9, k11, k12, k13, k14, k15, k16, l0, l1, l2, l3, kb]; exact wo_bst h
  · -- tri
    simp only [nC, nS, nF, nR, k3, k4, k5, k6, k7, k8, k9, k11, k12, k13, k14, k15, k16, l0, l1, l2, l3, kb]; exact wo_tri h
  · -- trd
    simp only [nC, nS, nF, nR, k3, k4, k5, k6, k7, k8, k9, k11, k12, k13, k14, k15, k16, l0, l1, l2, l3, kb]; exact wo_trd h
  · -- bsq
    simp only [nC, nS, nF, nR, k3, k4, k5, k6, k7, k8, k9, k11, k12, k13, k14, k15, k16, l0, l1, l2, l3, kb]; exact wo_bsq h
  · -- far
    simp only [nC, nS, nF, nR, k3, k4, k5, k6, k7, k8, k9, k11, k12, k13, k14, k15, k16, l0, l1, l2, l3, kb]; exact wo_far h
  · -- dep
    simp only [nC, nS, nF, nR, k3, k4, k5, k6, k7, k8, k9, k11, k12, k13, k14, k15, k16, l0, l1, l2, l3, kb]; exact wo_dep h
  · -- dp0
    simp only [nC, nS, nF, nR, k3, k4, k5, k6, k7, k8, k9, k11, k12, k13, k14, k15, k16, l0, l1, l2, l3, kb]; exact wo_dp0 h
  · -- fk
    simp only [nC, nS, nF, nR, k3, k4, k5, k6, k7, k8, k9, k11, k12, k13, k14, k15, k16, l0, l1, l2, l3, kb]; exact wo_fk h
  · -- f0
    simp only [nC, nS, nF, nR, k3, k4, k5, k6, k7, k8, k9, k11, k12, k13, k14, k15, k16, l0, l1, l2, l3, kb]; exact wo_f0 h
  · -- f1
    simp only [nC, nS, nF, nR, k3, k4, k5, k6, k7, k8, k9, k11, k12, k13, k14, k15, k16, l0, l1, l2, l3, kb]; exact wo_f1 h
  · -- f2
    simp only [nC, nS, nF, nR, k3, k4, k5, k6, k7, k8, k9, k11, k12, k13, k14, k15, k16, l0, l1, l2, l3, kb]; exact wo_f2 h
  · -- f3
    simp only [nC, nS, nF, nR, k3, k4, k5, k6, k7, k8, k9, k11, k12, k13, k14, k15, k16, l0, l1, l2, l3, kb]; exact wo_f3 h
  · -- f4
    simp only [nC, nS, nF, nR, k3, k4, k5, k6, k7, k8, k9, k11, k12, k13, k14, k15, k16, l0, l1, l2, l3, kb]; exact wo_f4 h
  · -- rul
    simp only [nC, nS, nF, nR, k3, k4, k5, k6, k7, k8, k9, k11, k12, k13, k14, k15, k16, l0, l1, l2, l3, kb]; exact wo_rul h
  · -- r01
    simp only [nC, nS, nF, nR, k3, k4, k5, k6, k7, k8, k9, k11, k12, k13, k14, k15, k16, l0, l1, l2, l3, kb]; exact wo_r01 h
  · -- rm4
    simp only [nC, nS, nF, nR, k3, k4, k5, k6, k7, k8, k9, k11, k12, k13, k14, k15, k16, l0, l1, l2, l3, kb]; exact wo_rm4 h
  · -- tk3
    simp only [nC, nS, nF, nR, k3, k4, k5, k6, k7, k8, k9, k11, k12, k13, k14, k15, k16, l0, l1, l2, l3, kb]; exact wo_tk3 h
  · -- w6
    intro c h2 h3; simp only [nC, l0] at h2; rw [xs_at, if_neg (by decide)] at h3; rw [m1]; exact wo_w6 h c h2 h3
  · -- wt3
    simp only [nC, nS, nF, nR, k3, k4, k5, k6, k7, k8, k9, k11, k12, k13, k14, k15, k16, l0, l1, l2, l3, kb]; exact wo_wt3 h
  · -- deg
    simp only [nC, nS, nF, nR, k3, k4, k5, k6, k7, k8, k9, k11, k12, k13, k14, k15, k16, l0, l1, l2, l3, kb]; exact wo_deg h
  · -- f7
    simp only [nC, nS, nF, nR, k3, k4, k5, k6, k7, k8, k9, k11, k12, k13, k14, k15, k16, l0, l1, l2, l3, kb]; exact wo_f7 h
theorem ctS_o (X : XM) {s i : Nat} (h : i ≠ s) (n : Nat) : ctS X s n 5 i = X 5 i := by
  rw [ctS_z5]
  unfold z5
  rw [if_neg (fun z => h z.2), dtS_5]
theorem ctA_o (X : XM) {i : Nat} : ∀ n, n ≤ i → ctA X n 5 i = X 5 i
  | 0, _ => rfl
  | n + 1, h => by rw [ctA, ctS_o _ (by omega)]; exact ctA_o X n (by omega)
theorem ctA_t (X : XM) (n : Nat) : tak (ctA X n) n = tak X n := by
  funext c
  unfold tak
  rw [ctA_o X n (Nat.le_refl n)]
/-- a term ends -/
def etO (X : XM) : XM := xs (xs (ctA X (nS X).toNat) 0 0 5 0) 0 0 6 (X 0 0 6 + 1)
theorem caN_R (X : XM) : ∀ n, 0 ≤ caN X n ∧ caN X n ≤ 20 * n
  | 0 => ⟨Int.le_refl 0, Int.le_refl 0⟩
  | n + 1 => by
    have h1 := caN_R X n
    have h2 := cnt_0 (tak X n) 20
    rw [caN]
    omega
theorem wx_etO {ν : Nat → Nat → Bool} {X : XM} (h : WX ν X) (hd : 5 < X 0 0 5) (ht : X 0 0 6 + 1 ≤ 1000000) : WX ν (etO X) := by
  have q := wo_nS h.1
  have q2 := wo_term h.1
  have w1 := wx_dy (wx_ctA h hd (nS X).toNat (by omega)) (d := 0) (by omega) (fun z => absurd z (by decide))
  exact ⟨wo_te w1.1 (by omega), wv_k w1.2 (xs_nk (by decide)) (xs_nk (by decide))⟩
set_option maxRecDepth 100000 in
set_option maxHeartbeats 4000000 in
theorem c_X11_endTerm_ok {g : Gt} {α : AL} {ν : Nat → Nat → Bool} {X : XM} {h : AH} (hT : TR g α ν X h) (hW : WX ν X) (hd : 20 < X 0 0 5) (ht : X 0 0 6 + 1 ≤ 1000000) : Mu g α ν M_X11_endTerm 28 [.ref (α 0 0)] h (some (.int (J (caN X (nS X).toNat)))) (fun X' => X' = etO X ∧ WX ν X') := by
  refine mu_of rfl rfl (ls := [some (.ref (α 0 0)), none, none]) rfl (Nat.le_of_ble_eq_true rfl) ?_
  show Ev g M_X11_endTerm 28 0 [some (.ref (α 0 0)), none, none] [] h 0 0 (UQ g α ν (some (.int (J (caN X (nS X).toNat)))) (fun X' => X' = etO X ∧ WX ν X'))
  have q1 := wo_nC hW.1
  have q3 := wo_nS hW.1
  have qd := wo_day hW.1
  have qt := wo_term hW.1
  have hW0 := hW
  refine ev_ald0 1 dX11_endTerm_0 rfl ?_
  refine ev_getfield 4 13 5 fl_X11_180_13 (tr0 hT) rfl dX11_endTerm_1 rfl ?_
  refine tj_bipush 6 dX11_endTerm_4 (by decide) rfl ?_
  refine tj_icmp_ge 20 9 dX11_endTerm_6 (by decide) rfl (by first | exact TR.rng hT _ _ _ | exact R31_of _ | exact bi_R _ | (constructor <;> omega)) (by first | exact TR.rng hT _ _ _ | exact R31_of _ | exact bi_R _ | (constructor <;> omega)) (fun c6 => ?_) (fun c6 => ?_)
  · skip
    refine tj_iconst 21 dX11_endTerm_20 rfl ?_
    refine ev_ist1 22 dX11_endTerm_21 rfl (by decide) rfl ?_
    refine tj_iconst 23 dX11_endTerm_22 rfl ?_
    refine ev_ist2 24 dX11_endTerm_23 rfl (by decide) rfl ?_
    have lp24 : ∀ (n24 : Nat) (n : Nat) (z1 : Int) (z2 : Int)  (h : AH) (X2 : XM), 17 - n < n24 → ((n : Int) ≤ nS X) → z1 = caN X n → z2 = (n : Int) → TR g α ν X2 h → X2 = ctA X n → Ev g M_X11_endTerm 28 24 [some (.ref (α 0 0)), some (.int (J z1)), some (.int (J z2))] [] h 0 0 (UQ g α ν (some (.int (J (caN X (nS X).toNat)))) (fun X' => X' = etO X ∧ WX ν X')) := by
      intro n24
      induction n24 with
      | zero => intro n z1 z2 h X2 hm; exact absurd hm (Nat.not_lt_zero _)
      | succ n24 ih24 =>
        intro n z1 z2 h X2 hm24 hn e1 e2 hT hI
        subst e1
        subst e2
        have hW : WX ν X2 := by rw [hI]; exact wx_ctA hW0 (by omega) n hn
        have e1 : X2 1 = X 1 := by rw [hI]; exact ctA_k (by decide) (by decide) (by decide) (by decide) (by decide) n
        have e0 : X2 0 = X 0 := by rw [hI]; exact ctA_k (by decide) (by decide) (by decide) (by decide) (by decide) n
        have en2 : nS X2 = nS X := by unfold nS; rw [e1]
        have htk : tak X2 n = tak X n := by rw [hI, ctA_t]
        have e05 : X2 0 0 5 = X 0 0 5 := by rw [e0]
        have e06 : X2 0 0 6 = X 0 0 6 := by rw [e0]
        have hca := caN_R X n
        refine ev_ild2 25 dX11_endTerm_24 rfl ?_
        refine ev_ald0 26 dX11_endTerm_25 rfl ?_
        refine ev_getfield 29 13 1 fl_X11_16_13 (tr0 hT) rfl dX11_endTerm_26 rfl ?_
        refine tc_V0 32 2 dX11_endTerm_29 lkv_X11_70 (tr1_1 hT) rfl rfl (by first | decide | omega) (Nat.le_of_ble_eq_true rfl) (z_S hT hW) ?_
        refine tj_icmp_ge 58 35 dX11_endTerm_32 (by decide) rfl (by first | exact TR.rng hT _ _ _ | exact R31_of _ | exact bi_R _ | (constructor <;> omega)) (by first | exact TR.rng hT _ _ _ | exact R31_of _ | exact bi_R _ | (constructor <;> omega)) (fun c32 => ?_) (fun c32 => ?_)
        · skip
          obtain rfl : n = (nS X).toNat := by omega
          refine ev_ald0 59 dX11_endTerm_58 rfl ?_
          refine tj_iconst 60 dX11_endTerm_59 rfl ?_
          refine tv_puti 63 5 .int fl_X11_180_13 fp_13_5 hT (tv0 hT) (fun _ => rfl) rfl (Nat.le_of_ble_eq_true rfl) rfl rfl (by first | exact TR.rng hT _ _ _ | exact R31_of _ | exact bi_R _ | (constructor <;> omega)) dX11_endTerm_60 rfl (fun h hT => ?_)
          obtain ⟨X3, hX3⟩ : ∃ Z, Z = xs X2 0 0 5 0 := ⟨_, rfl⟩
          rw [← hX3] at hT
          have e36 : X3 0 0 6 = X 0 0 6 := by rw [hX3, xs_at, if_neg (by decide), e06]
          refine ev_ald0 64 dX11_endTerm_63 rfl ?_
          refine ev_dup 65 dX11_endTerm_64 rfl rfl ?_
          refine ev_getfield 68 13 6 fl_X11_188_13 (tr0 hT) rfl dX11_endTerm_65 rfl ?_
          refine tj_iconst 69 dX11_endTerm_68 rfl ?_
          refine tj_iadd 70 dX11_endTerm_69 rfl ?_
          refine tv_puti 73 6 .int fl_X11_188_13 fp_13_6 hT (tv0 hT) (fun _ => rfl) rfl (Nat.le_of_ble_eq_true rfl) rfl rfl (by first | exact TR.rng hT _ _ _ | exact R31_of _ | exact bi_R _ | (constructor <;> omega)) dX11_endTerm_70 rfl (fun h hT => ?_)
          refine ev_ild1 74 dX11_endTerm_73 rfl ?_
          exact ev_ireturn (uq_i (by first | rfl | omega | exact bi_dt (by omega) | exact bi_df (by omega) | (rfl)) hT (by rw [e36, hX3, hI]; exact ⟨rfl, wx_etO hW0 (by omega) ht⟩)) rfl dX11_endTerm_74
        · skip
          refine ev_ild1 36 dX11_endTerm_35 rfl ?_
          refine ev_ald0 37 dX11_endTerm_36 rfl ?_
          refine ev_getfield 40 13 1 fl_X11_16_13 (tr0 hT) rfl dX11_endTerm_37 rfl ?_
          refine ev_ild2 41 dX11_endTerm_40 rfl ?_
          refine tc_V1 44 2 dX11_endTerm_41 lkv_X11_276 (tr1_1 hT) rfl rfl (by first | decide | omega) (Nat.le_of_ble_eq_true rfl) (g_S hT hW (by omega)) ?_
          refine ev_castS 47 dX11_endTerm_44 cl_X11_29 (tr4 hT (by first | assumption | exact wx_stu hW (by omega) | exact wx_crs hW (by omega) | exact wx_new hW) (by omega)) rfl rfl ?_
          refine tm_V0 50 10 dX11_endTerm_47 lkv_X11_280 (tr4 hT (by first | assumption | exact wx_stu hW (by omega) | exact wx_crs hW (by omega) | exact wx_new hW) (by omega)) rfl rfl (by first | decide | omega) (Nat.le_of_ble_eq_true rfl) (c_X8_closeTerm hT hW (by omega) (by omega)) (fun h X1 hT hP47 => ?_)
          rw [htk]
          refine tj_iadd 51 dX11_endTerm_50 rfl ?_
          refine ev_ist1 52 dX11_endTerm_51 rfl (by decide) rfl ?_
          refine tj_inc2 55 dX11_endTerm_52 rfl (by decide) rfl ?_
          refine ev_goto 24 dX11_endTerm_55 (by decide) ?_
          exact ih24 (n + 1) _ _ _ _ (by omega) (by first | omega | assumption | omega) (by first | rfl | omega | (rw [caN])) (by first | rfl | omega | (rw [caN])) hT (by first | assumption | (first | rfl | (rw [ctA, ← hI]; exact hP47)))
    exact lp24 _ (0) _ _ _ _ (Nat.lt_succ_self _) (by first | omega | assumption | omega) (by first | rfl | omega | (rw [caN])) (by first | rfl | omega | (rw [caN])) hT (by first | assumption | (first | rfl | (rw [ctA, ← hI]; exact hP47)))
  · exact False.elim (by omega)
