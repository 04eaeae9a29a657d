/-! THE CLASS: what it reads -/
set_option maxRecDepth 100000 in
set_option maxHeartbeats 4000000 in
theorem c_X11_isWithin {g : Gt} {h : AH} {a : Int} (ha : R31 a) {b : Int} (hb : R31 b) {c : Int} (hc : R31 c) : Pr g M_X11_isWithin 0 [.int (J a), .int (J b), .int (J c)] h (some (.int (J (bi (decide (b ≤ a ∧ a ≤ c)))))) := by
  refine pr_of rfl rfl (ls := [some (.int (J a)), some (.int (J b)), some (.int (J c))]) rfl (Nat.le_of_ble_eq_true rfl) ?_
  show Ev g M_X11_isWithin 0 0 [some (.int (J a)), some (.int (J b)), some (.int (J c))] [] h 0 0 (PQ (some (.int (J (bi (decide (b ≤ a ∧ a ≤ c)))))) h)
  refine ev_ild0 1 dX11_isWithin_0 rfl ?_
  refine ev_ild1 2 dX11_isWithin_1 rfl ?_
  refine tj_icmp_lt 14 5 dX11_isWithin_2 (by decide) rfl (by first | exact TR.rng hT _ _ _ | exact R31_of _ | exact bi_R _ | (constructor <;> omega)) (by first | exact TR.rng hT _ _ _ | exact R31_of _ | exact bi_R _ | (constructor <;> omega)) (fun c2 => ?_) (fun c2 => ?_)
  · skip
    refine tj_iconst 15 dX11_isWithin_14 rfl ?_
    exact tz_ret (by first | rfl | omega | exact bi_dt (by omega) | exact bi_df (by omega) | (skip)) rfl dX11_isWithin_15
  · skip
    refine ev_ild0 6 dX11_isWithin_5 rfl ?_
    refine ev_ild2 7 dX11_isWithin_6 rfl ?_
    refine tj_icmp_gt 14 10 dX11_isWithin_7 (by decide) rfl (by first | exact TR.rng hT _ _ _ | exact R31_of _ | exact bi_R _ | (constructor <;> omega)) (by first | exact TR.rng hT _ _ _ | exact R31_of _ | exact bi_R _ | (constructor <;> omega)) (fun c7 => ?_) (fun c7 => ?_)
    · skip
      refine tj_iconst 15 dX11_isWithin_14 rfl ?_
      exact tz_ret (by first | rfl | omega | exact bi_dt (by omega) | exact bi_df (by omega) | (skip)) rfl dX11_isWithin_15
    · skip
      refine tj_iconst 11 dX11_isWithin_10 rfl ?_
      refine ev_goto 15 dX11_isWithin_11 (by decide) ?_
      exact tz_ret (by first | rfl | omega | exact bi_dt (by omega) | exact bi_df (by omega) | (skip)) rfl dX11_isWithin_15
set_option maxRecDepth 100000 in
set_option maxHeartbeats 4000000 in
theorem c_X8_hasPassed {g : Gt} {α : AL} {ν : Nat → Nat → Bool} {X : XM} {h : AH} (hT : TR g α ν X h) {s : Nat} (hs : ν 4 s = true) (hl : s < 17) {c : Nat} (hc : c < 20) : Pr g M_X8_hasPassed 0 [.ref (α 4 s), .int (J (c : Int))] h (some (.int (J (bi (psd X s c))))) := by
  refine pr_of rfl rfl (ls := [some (.ref (α 4 s)), some (.int (J (c : Int)))]) rfl (Nat.le_of_ble_eq_true rfl) ?_
  show Ev g M_X8_hasPassed 0 0 [some (.ref (α 4 s)), some (.int (J (c : Int)))] [] h 0 0 (PQ (some (.int (J (bi (psd X s c))))) h)
  refine ev_ald0 1 dX8_hasPassed_0 rfl ?_
  refine ev_getfield 4 10 4 fl_X8_22_10 (tr4 hT (by first | assumption | exact wx_stu hW (by omega) | exact wx_crs hW (by omega) | exact wx_new hW) (by omega)) rfl dX8_hasPassed_1 rfl ?_
  refine ev_ild1 5 dX8_hasPassed_4 rfl ?_
  refine tv_iald 6 (tr8 hT (by first | assumption | exact wx_stu hW (by omega) | exact wx_crs hW (by omega) | exact wx_new hW) (by omega)) (c) (by omega) (by omega) (by omega) dX8_hasPassed_5 rfl ?_
  refine tj_bipush 8 dX8_hasPassed_6 (by decide) rfl ?_
  refine tj_icmp_lt 15 11 dX8_hasPassed_8 (by decide) rfl (by first | exact TR.rng hT _ _ _ | exact R31_of _ | exact bi_R _ | (constructor <;> omega)) (by first | exact TR.rng hT _ _ _ | exact R31_of _ | exact bi_R _ | (constructor <;> omega)) (fun c8 => ?_) (fun c8 => ?_)
  · skip
    refine tj_iconst 16 dX8_hasPassed_15 rfl ?_
    exact tz_ret (by first | rfl | omega | exact bi_dt (by omega) | exact bi_df (by omega) | (skip)) rfl dX8_hasPassed_16
  · skip
    refine tj_iconst 12 dX8_hasPassed_11 rfl ?_
    refine ev_goto 16 dX8_hasPassed_12 (by decide) ?_
    exact tz_ret (by first | rfl | omega | exact bi_dt (by omega) | exact bi_df (by omega) | (skip)) rfl dX8_hasPassed_16
set_option maxRecDepth 100000 in
set_option maxHeartbeats 4000000 in
theorem c_X11_takersOf {g : Gt} {α : AL} {ν : Nat → Nat → Bool} {X : XM} {h : AH} (hT : TR g α ν X h) (hW : WX ν X) {c : Nat} (hc : (c : Int) < nC X) : Pr g M_X11_takersOf 3 [.ref (α 0 0), .ref (α 12 c)] h (some (.int (J (enr X c)))) := by
  refine pr_of rfl rfl (ls := [some (.ref (α 0 0)), some (.ref (α 12 c)), none, none]) rfl (Nat.le_of_ble_eq_true rfl) ?_
  show Ev g M_X11_takersOf 3 0 [some (.ref (α 0 0)), some (.ref (α 12 c)), none, none] [] h 0 0 (PQ (some (.int (J (enr X c)))) h)
  have q1 := wo_nC hW.1
  have q3 := wo_nS hW.1
  refine tj_iconst 1 dX11_takersOf_0 rfl ?_
  refine ev_ist2 2 dX11_takersOf_1 rfl (by decide) rfl ?_
  refine tj_iconst 3 dX11_takersOf_2 rfl ?_
  refine ev_ist3 4 dX11_takersOf_3 rfl (by decide) rfl ?_
  have lp4 : ∀ (n4 : Nat) (s : Nat) (z2 : Int) (z3 : Int) , 16 - s < n4 → ((s : Int) ≤ nS X) → z2 = cnt (fun s => tak X s c) s → z3 = (s : Int) → Ev g M_X11_takersOf 3 4 [some (.ref (α 0 0)), some (.ref (α 12 c)), some (.int (J z2)), some (.int (J z3))] [] h 0 0 (PQ (some (.int (J (enr X c)))) h) := by
    intro n4
    induction n4 with
    | zero => intro s z2 z3 hm; exact absurd hm (Nat.not_lt_zero _)
    | succ n4 ih4 =>
      intro s z2 z3 hm4 hs e2 e3
      subst e2
      subst e3
      have q2 := cnt_0 (fun s => tak X s c) s
      refine ev_ild3 5 dX11_takersOf_4 rfl ?_
      refine ev_ald0 6 dX11_takersOf_5 rfl ?_
      refine ev_getfield 9 13 1 fl_X11_16_13 (tr0 hT) rfl dX11_takersOf_6 rfl ?_
      refine tc_V0 12 2 dX11_takersOf_9 lkv_X11_70 (tr1_1 hT) rfl rfl (by first | decide | omega) (Nat.le_of_ble_eq_true rfl) (z_S hT hW) ?_
      refine tj_icmp_ge 46 15 dX11_takersOf_12 (by decide) rfl (by first | exact TR.rng hT _ _ _ | exact R31_of _ | exact bi_R _ | (constructor <;> omega)) (by first | exact TR.rng hT _ _ _ | exact R31_of _ | exact bi_R _ | (constructor <;> omega)) (fun c12 => ?_) (fun c12 => ?_)
      · skip
        refine ev_ild2 47 dX11_takersOf_46 rfl ?_
        exact ev_ireturn (pq_i (by first | rfl | omega | exact bi_dt (by omega) | exact bi_df (by omega) | (rw [show s = (nS X).toNat by omega]; rfl))) rfl dX11_takersOf_47
      · skip
        refine ev_ald0 16 dX11_takersOf_15 rfl ?_
        refine ev_getfield 19 13 1 fl_X11_16_13 (tr0 hT) rfl dX11_takersOf_16 rfl ?_
        refine ev_ild3 20 dX11_takersOf_19 rfl ?_
        refine tc_V1 23 2 dX11_takersOf_20 lkv_X11_276 (tr1_1 hT) rfl rfl (by first | decide | omega) (Nat.le_of_ble_eq_true rfl) (g_S hT hW (by omega)) ?_
        refine ev_castS 26 dX11_takersOf_23 cl_X11_29 (tr4 hT (by first | assumption | exact wx_stu hW (by omega) | exact wx_crs hW (by omega) | exact wx_new hW) (by omega)) rfl rfl ?_
        refine ev_getfield 29 10 1 fl_X11_214_10 (tr4 hT (by first | assumption | exact wx_stu hW (by omega) | exact wx_crs hW (by omega) | exact wx_new hW) (by omega)) rfl dX11_takersOf_26 rfl ?_
        refine ev_ald1 30 dX11_takersOf_29 rfl ?_
        refine ev_getfield 33 5 0 fl_X11_428_5 (tr12 hT (by first | assumption | exact wx_stu hW (by omega) | exact wx_crs hW (by omega) | exact wx_new hW)) rfl dX11_takersOf_30 rfl ?_
        first | refine tv_zald 34 (tr5 hT (by first | assumption | exact wx_stu hW (by omega) | exact wx_crs hW (by omega) | exact wx_new hW) (by omega)) _ rfl (by omega) (by omega) dX11_takersOf_33 rfl ?_ | refine tv_zald 34 (tr5 hT (by first | assumption | exact wx_stu hW (by omega) | exact wx_crs hW (by omega) | exact wx_new hW) (by omega)) (Int.toNat _) (by omega) (by omega) (by omega) dX11_takersOf_33 rfl ?_
        refine tj_if_eq 40 37 dX11_takersOf_34 (by decide) rfl (by first | exact TR.rng hT _ _ _ | exact R31_of _ | exact bi_R _ | (constructor <;> omega)) (fun c34 => ?_) (fun c34 => ?_)
        · skip
          refine tj_inc3 43 dX11_takersOf_40 rfl (by decide) rfl ?_
          refine ev_goto 4 dX11_takersOf_43 (by decide) ?_
          exact ih4 (s + 1) _ _ (by omega) (by first | omega | assumption | omega) (by first | rfl | omega | (simp [cnt_s, tak, c34])) (by first | rfl | omega | (simp [cnt_s, tak, c34]))
        · skip
          refine tj_inc2 40 dX11_takersOf_37 rfl (by decide) rfl ?_
          refine tj_inc3 43 dX11_takersOf_40 rfl (by decide) rfl ?_
          refine ev_goto 4 dX11_takersOf_43 (by decide) ?_
          exact ih4 (s + 1) _ _ (by omega) (by first | omega | assumption | omega) (by first | rfl | omega | (simp [cnt_s, tak, c34])) (by first | rfl | omega | (simp [cnt_s, tak, c34]))
  exact lp4 _ (0) _ _ (Nat.lt_succ_self _) (by first | omega | assumption | omega) (by first | rfl | omega | (simp [cnt_s, tak, c34])) (by first | rfl | omega | (simp [cnt_s, tak, c34]))
set_option maxRecDepth 100000 in
set_option maxHeartbeats 4000000 in
theorem c_X11_takersOfMajor {g : Gt} {α : AL} {ν : Nat → Nat → Bool} {X : XM} {h : AH} (hT : TR g α ν X h) (hW : WX ν X) {c : Nat} (hc : (c : Int) < nC X){m : Int} (hm : R31 m) : Pr g M_X11_takersOfMajor 3 [.ref (α 0 0), .ref (α 12 c), .int (J m)] h (some (.int (J (enrM X c m)))) := by
  refine pr_of rfl rfl (ls := [some (.ref (α 0 0)), some (.ref (α 12 c)), some (.int (J m)), none, none, none]) rfl (Nat.le_of_ble_eq_true rfl) ?_
  show Ev g M_X11_takersOfMajor 3 0 [some (.ref (α 0 0)), some (.ref (α 12 c)), some (.int (J m)), none, none, none] [] h 0 0 (PQ (some (.int (J (enrM X c m)))) h)
  have q1 := wo_nC hW.1
  have q3 := wo_nS hW.1
  refine tj_iconst 1 dX11_takersOfMajor_0 rfl ?_
  refine ev_ist3 2 dX11_takersOfMajor_1 rfl (by decide) rfl ?_
  refine tj_iconst 3 dX11_takersOfMajor_2 rfl ?_
  refine ev_ist4 5 dX11_takersOfMajor_3 rfl (by decide) rfl ?_
  have lp5 : ∀ (n5 : Nat) (s : Nat) (z3 : Int) (z4 : Int) (o5 : Option Value), 16 - s < n5 → ((s : Int) ≤ nS X) → z3 = cnt (fun s => tak X s c && decide (X 4 s 0 = m)) s → z4 = (s : Int) → Ev g M_X11_takersOfMajor 3 5 [some (.ref (α 0 0)), some (.ref (α 12 c)), some (.int (J m)), some (.int (J z3)), some (.int (J z4)), o5] [] h 0 0 (PQ (some (.int (J (enrM X c m)))) h) := by
    intro n5
    induction n5 with
    | zero => intro s z3 z4 o5 hm; exact absurd hm (Nat.not_lt_zero _)
    | succ n5 ih5 =>
      intro s z3 z4 o5 hm5 hs e3 e4
      subst e3
      subst e4
      have q2 := cnt_0 (fun s => tak X s c && decide (X 4 s 0 = m)) s
      refine ev_ild4 7 dX11_takersOfMajor_5 rfl ?_
      refine ev_ald0 8 dX11_takersOfMajor_7 rfl ?_
      refine ev_getfield 11 13 1 fl_X11_16_13 (tr0 hT) rfl dX11_takersOfMajor_8 rfl ?_
      refine tc_V0 14 2 dX11_takersOfMajor_11 lkv_X11_70 (tr1_1 hT) rfl rfl (by first | decide | omega) (Nat.le_of_ble_eq_true rfl) (z_S hT hW) ?_
      refine tj_icmp_ge 62 17 dX11_takersOfMajor_14 (by decide) rfl (by first | exact TR.rng hT _ _ _ | exact R31_of _ | exact bi_R _ | (constructor <;> omega)) (by first | exact TR.rng hT _ _ _ | exact R31_of _ | exact bi_R _ | (constructor <;> omega)) (fun c14 => ?_) (fun c14 => ?_)
      · skip
        refine ev_ild3 63 dX11_takersOfMajor_62 rfl ?_
        exact ev_ireturn (pq_i (by first | rfl | omega | exact bi_dt (by omega) | exact bi_df (by omega) | (rw [show s = (nS X).toNat by omega]; rfl))) rfl dX11_takersOfMajor_63
      · skip
        refine ev_ald0 18 dX11_takersOfMajor_17 rfl ?_
        refine ev_getfield 21 13 1 fl_X11_16_13 (tr0 hT) rfl dX11_takersOfMajor_18 rfl ?_
        refine ev_ild4 23 dX11_takersOfMajor_21 rfl ?_
        refine tc_V1 26 2 dX11_takersOfMajor_23 lkv_X11_276 (tr1_1 hT) rfl rfl (by first | decide | omega) (Nat.le_of_ble_eq_true rfl) (g_S hT hW (by omega)) ?_
        refine ev_castS 29 dX11_takersOfMajor_26 cl_X11_29 (tr4 hT (by first | assumption | exact wx_stu hW (by omega) | exact wx_crs hW (by omega) | exact wx_new hW) (by omega)) rfl rfl ?_
        refine ev_ast5 31 dX11_takersOfMajor_29 rfl (by decide) rfl ?_
        refine ev_ald5 33 dX11_takersOfMajor_31 rfl ?_
        refine ev_getfield 36 10 1 fl_X11_214_10 (tr4 hT (by first | assumption | exact wx_stu hW (by omega) | exact wx_crs hW (by omega) | exact wx_new hW) (by omega)) rfl dX11_takersOfMajor_33 rfl ?_
        refine ev_ald1 37 dX11_takersOfMajor_36 rfl ?_
        refine ev_getfield 40 5 0 fl_X11_428_5 (tr12 hT (by first | assumption | exact wx_stu hW (by omega) | exact wx_crs hW (by omega) | exact wx_new hW)) rfl dX11_takersOfMajor_37 rfl ?_
        first | refine tv_zald 41 (tr5 hT (by first | assumption | exact wx_stu hW (by omega) | exact wx_crs hW (by omega) | exact wx_new hW) (by omega)) _ rfl (by omega) (by omega) dX11_takersOfMajor_40 rfl ?_ | refine tv_zald 41 (tr5 hT (by first | assumption | exact wx_stu hW (by omega) | exact wx_crs hW (by omega) | exact wx_new hW) (by omega)) (Int.toNat _) (by omega) (by omega) (by omega) dX11_takersOfMajor_40 rfl ?_
        refine tj_if_eq 56 44 dX11_takersOfMajor_41 (by decide) rfl (by first | exact TR.rng hT _ _ _ | exact R31_of _ | exact bi_R _ | (constructor <;> omega)) (fun c41 => ?_) (fun c41 => ?_)
        · skip
          refine tj_inc4 59 dX11_takersOfMajor_56 rfl (by decide) rfl ?_
          refine ev_goto 5 dX11_takersOfMajor_59 (by decide) ?_
          exact ih5 (s + 1) _ _ _ (by omega) (by first | omega | assumption | omega) (by first | rfl | omega | (simp [cnt_s, tak, *])) (by first | rfl | omega | (simp [cnt_s, tak, *]))
        · skip
          refine ev_ald5 46 dX11_takersOfMajor_44 rfl ?_
          refine ev_getfield 49 10 0 fl_X11_97_10 (tr4 hT (by first | assumption | exact wx_stu hW (by omega) | exact wx_crs hW (by omega) | exact wx_new hW) (by omega)) rfl dX11_takersOfMajor_46 rfl ?_
          refine ev_ild2 50 dX11_takersOfMajor_49 rfl ?_
          refine tj_icmp_ne 56 53 dX11_takersOfMajor_50 (by decide) rfl (by first | exact TR.rng hT _ _ _ | exact R31_of _ | exact bi_R _ | (constructor <;> omega)) (by first | exact TR.rng hT _ _ _ | exact R31_of _ | exact bi_R _ | (constructor <;> omega)) (fun c50 => ?_) (fun c50 => ?_)
          · skip
            refine tj_inc4 59 dX11_takersOfMajor_56 rfl (by decide) rfl ?_
            refine ev_goto 5 dX11_takersOfMajor_59 (by decide) ?_
            exact ih5 (s + 1) _ _ _ (by omega) (by first | omega | assumption | omega) (by first | rfl | omega | (simp [cnt_s, tak, *])) (by first | rfl | omega | (simp [cnt_s, tak, *]))
          · skip
            refine tj_inc3 56 dX11_takersOfMajor_53 rfl (by decide) rfl ?_
            refine tj_inc4 59 dX11_takersOfMajor_56 rfl (by decide) rfl ?_
            refine ev_goto 5 dX11_takersOfMajor_59 (by decide) ?_
            exact ih5 (s + 1) _ _ _ (by omega) (by first | omega | assumption | omega) (by first | rfl | omega | (simp [cnt_s, tak, *])) (by first | rfl | omega | (simp [cnt_s, tak, *]))
  exact lp5 _ (0) _ _ _ (Nat.lt_succ_self _) (by first | omega | assumption | omega) (by first | rfl | omega | (simp [cnt_s, tak, *])) (by first | rfl | omega | (simp [cnt_s, tak, *]))
set_option maxRecDepth 100000 in
set_option maxHeartbeats 4000000 in
theorem c_X11_creditsEarned {g : Gt} {α : AL} {ν : Nat → Nat → Bool} {X : XM} {h : AH} (hT : TR g α ν X h) (hW : WX ν X) {s : Nat} (hs : ν 4 s = true) (hl : s < 17) : Pr g M_X11_creditsEarned 3 [.ref (α 0 0), .ref (α 4 s)] h (some (.int (J (ernd X s)))) := by
  refine pr_of rfl rfl (ls := [some (.ref (α 0 0)), some (.ref (α 4 s)), none, none]) rfl (Nat.le_of_ble_eq_true rfl) ?_
  show Ev g M_X11_creditsEarned 3 0 [some (.ref (α 0 0)), some (.ref (α 4 s)), none, none] [] h 0 0 (PQ (some (.int (J (ernd X s)))) h)
  have q1 := wo_nC hW.1
  have q3 := wo_nS hW.1
  refine tj_iconst 1 dX11_creditsEarned_0 rfl ?_
  refine ev_ist2 2 dX11_creditsEarned_1 rfl (by decide) rfl ?_
  refine tj_iconst 3 dX11_creditsEarned_2 rfl ?_
  refine ev_ist3 4 dX11_creditsEarned_3 rfl (by decide) rfl ?_
  have lp4 : ∀ (n4 : Nat) (c : Nat) (z2 : Int) (z3 : Int) , 20 - c < n4 → ((c : Int) ≤ nC X) → z2 = crS X (psd X s) c → z3 = (c : Int) → Ev g M_X11_creditsEarned 3 4 [some (.ref (α 0 0)), some (.ref (α 4 s)), some (.int (J z2)), some (.int (J z3))] [] h 0 0 (PQ (some (.int (J (ernd X s)))) h) := by
    intro n4
    induction n4 with
    | zero => intro c z2 z3 hm; exact absurd hm (Nat.not_lt_zero _)
    | succ n4 ih4 =>
      intro c z2 z3 hm4 hc e2 e3
      subst e2
      subst e3
      have q2 := crS_0 hW.1 (psd X s) c (by omega)
      refine ev_ild3 5 dX11_creditsEarned_4 rfl ?_
      refine ev_ald0 6 dX11_creditsEarned_5 rfl ?_
      refine ev_getfield 9 13 0 fl_X11_12_13 (tr0 hT) rfl dX11_creditsEarned_6 rfl ?_
      refine tc_V0 12 2 dX11_creditsEarned_9 lkv_X11_70 (tr1_0 hT) rfl rfl (by first | decide | omega) (Nat.le_of_ble_eq_true rfl) (z_C hT hW) ?_
      refine tj_icmp_ge 46 15 dX11_creditsEarned_12 (by decide) rfl (by first | exact TR.rng hT _ _ _ | exact R31_of _ | exact bi_R _ | (constructor <;> omega)) (by first | exact TR.rng hT _ _ _ | exact R31_of _ | exact bi_R _ | (constructor <;> omega)) (fun c12 => ?_) (fun c12 => ?_)
      · skip
        refine ev_ild2 47 dX11_creditsEarned_46 rfl ?_
        exact ev_ireturn (pq_i (by first | rfl | omega | exact bi_dt (by omega) | exact bi_df (by omega) | (rw [show c = (nC X).toNat by omega]; rfl))) rfl dX11_creditsEarned_47
      · skip
        refine ev_ald1 16 dX11_creditsEarned_15 rfl ?_
        refine ev_ild3 17 dX11_creditsEarned_16 rfl ?_
        refine tc_V1 20 10 dX11_creditsEarned_17 lkv_X11_283 (tr4 hT (by first | assumption | exact wx_stu hW (by omega) | exact wx_crs hW (by omega) | exact wx_new hW) (by omega)) rfl rfl (by first | decide | omega) (Nat.le_of_ble_eq_true rfl) (c_X8_hasPassed hT (by first | assumption | exact wx_stu hW (by omega)) (by omega) (by omega)) ?_
        refine tb_if_eq 40 23 dX11_creditsEarned_20 (by decide) rfl (fun c20 => ?_) (fun c20 => ?_)
        · skip
          refine tj_inc3 43 dX11_creditsEarned_40 rfl (by decide) rfl ?_
          refine ev_goto 4 dX11_creditsEarned_43 (by decide) ?_
          exact ih4 (c + 1) _ _ (by omega) (by first | omega | assumption | omega) (by first | rfl | omega | (simp [crS_s, c20]; try rfl)) (by first | rfl | omega | (simp [crS_s, c20]; try rfl))
        · skip
          refine ev_ild2 24 dX11_creditsEarned_23 rfl ?_
          refine ev_ald0 25 dX11_creditsEarned_24 rfl ?_
          refine ev_getfield 28 13 0 fl_X11_12_13 (tr0 hT) rfl dX11_creditsEarned_25 rfl ?_
          refine ev_ild3 29 dX11_creditsEarned_28 rfl ?_
          refine tc_V1 32 2 dX11_creditsEarned_29 lkv_X11_276 (tr1_0 hT) rfl rfl (by first | decide | omega) (Nat.le_of_ble_eq_true rfl) (g_C hT hW (by omega)) ?_
          refine ev_castS 35 dX11_creditsEarned_32 cl_X11_79 (tr12 hT (by first | assumption | exact wx_stu hW (by omega) | exact wx_crs hW (by omega) | exact wx_new hW)) rfl rfl ?_
          refine ev_getfield 38 5 1 fl_X11_292_5 (tr12 hT (by first | assumption | exact wx_stu hW (by omega) | exact wx_crs hW (by omega) | exact wx_new hW)) rfl dX11_creditsEarned_35 rfl ?_
          refine tj_iadd 39 dX11_creditsEarned_38 rfl ?_
          refine ev_ist2 40 dX11_creditsEarned_39 rfl (by decide) rfl ?_
          refine tj_inc3 43 dX11_creditsEarned_40 rfl (by decide) rfl ?_
          refine ev_goto 4 dX11_creditsEarned_43 (by decide) ?_
          exact ih4 (c + 1) _ _ (by omega) (by first | omega | assumption | omega) (by first | rfl | omega | (simp [crS_s, c20]; try rfl)) (by first | rfl | omega | (simp [crS_s, c20]; try rfl))
  exact lp4 _ (0) _ _ (Nat.lt_succ_self _) (by first | omega | assumption | omega) (by first | rfl | omega | (simp [crS_s, c20]; try rfl)) (by first | rfl | omega | (simp [crS_s, c20]; try rfl))
set_option maxRecDepth 100000 in
set_option maxHeartbeats 4000000 in
theorem c_X11_creditsMovedIn {g : Gt} {α : AL} {ν : Nat → Nat → Bool} {X : XM} {h : AH} (hT : TR g α ν X h) (hW : WX ν X) {s : Nat} (hs : ν 4 s = true) (hl : s < 17) : Pr g M_X11_creditsMovedIn 3 [.ref (α 0 0), .ref (α 4 s)] h (some (.int (J (movd X s)))) := by
  refine pr_of rfl rfl (ls := [some (.ref (α 0 0)), some (.ref (α 4 s)), none, none]) rfl (Nat.le_of_ble_eq_true rfl) ?_
  show Ev g M_X11_creditsMovedIn 3 0 [some (.ref (α 0 0)), some (.ref (α 4 s)), none, none] [] h 0 0 (PQ (some (.int (J (movd X s)))) h)
  have q1 := wo_nC hW.1
  have q3 := wo_nS hW.1
  refine tj_iconst 1 dX11_creditsMovedIn_0 rfl ?_
  refine ev_ist2 2 dX11_creditsMovedIn_1 rfl (by decide) rfl ?_
  refine tj_iconst 3 dX11_creditsMovedIn_2 rfl ?_
  refine ev_ist3 4 dX11_creditsMovedIn_3 rfl (by decide) rfl ?_
  have lp4 : ∀ (n4 : Nat) (c : Nat) (z2 : Int) (z3 : Int) , 20 - c < n4 → ((c : Int) ≤ nC X) → z2 = crS X (mvd X s) c → z3 = (c : Int) → Ev g M_X11_creditsMovedIn 3 4 [some (.ref (α 0 0)), some (.ref (α 4 s)), some (.int (J z2)), some (.int (J z3))] [] h 0 0 (PQ (some (.int (J (movd X s)))) h) := by
    intro n4
    induction n4 with
    | zero => intro c z2 z3 hm; exact absurd hm (Nat.not_lt_zero _)
    | succ n4 ih4 =>
      intro c z2 z3 hm4 hc e2 e3
      subst e2
      subst e3
      have q2 := crS_0 hW.1 (mvd X s) c (by omega)
      refine ev_ild3 5 dX11_creditsMovedIn_4 rfl ?_
      refine ev_ald0 6 dX11_creditsMovedIn_5 rfl ?_
      refine ev_getfield 9 13 0 fl_X11_12_13 (tr0 hT) rfl dX11_creditsMovedIn_6 rfl ?_
      refine tc_V0 12 2 dX11_creditsMovedIn_9 lkv_X11_70 (tr1_0 hT) rfl rfl (by first | decide | omega) (Nat.le_of_ble_eq_true rfl) (z_C hT hW) ?_
      refine tj_icmp_ge 47 15 dX11_creditsMovedIn_12 (by decide) rfl (by first | exact TR.rng hT _ _ _ | exact R31_of _ | exact bi_R _ | (constructor <;> omega)) (by first | exact TR.rng hT _ _ _ | exact R31_of _ | exact bi_R _ | (constructor <;> omega)) (fun c12 => ?_) (fun c12 => ?_)
      · skip
        refine ev_ild2 48 dX11_creditsMovedIn_47 rfl ?_
        exact ev_ireturn (pq_i (by first | rfl | omega | exact bi_dt (by omega) | exact bi_df (by omega) | (rw [show c = (nC X).toNat by omega]; rfl))) rfl dX11_creditsMovedIn_48
      · skip
        refine ev_ald1 16 dX11_creditsMovedIn_15 rfl ?_
        refine ev_getfield 19 10 2 fl_X11_425_10 (tr4 hT (by first | assumption | exact wx_stu hW (by omega) | exact wx_crs hW (by omega) | exact wx_new hW) (by omega)) rfl dX11_creditsMovedIn_16 rfl ?_
        refine ev_ild3 20 dX11_creditsMovedIn_19 rfl ?_
        refine tv_zald 21 (tr6 hT (by first | assumption | exact wx_stu hW (by omega) | exact wx_crs hW (by omega) | exact wx_new hW) (by omega)) (c) (by omega) (by omega) (by omega) dX11_creditsMovedIn_20 rfl ?_
        refine tj_if_eq 41 24 dX11_creditsMovedIn_21 (by decide) rfl (by first | exact TR.rng hT _ _ _ | exact R31_of _ | exact bi_R _ | (constructor <;> omega)) (fun c21 => ?_) (fun c21 => ?_)
        · skip
          refine tj_inc3 44 dX11_creditsMovedIn_41 rfl (by decide) rfl ?_
          refine ev_goto 4 dX11_creditsMovedIn_44 (by decide) ?_
          exact ih4 (c + 1) _ _ (by omega) (by first | omega | assumption | omega) (by first | rfl | omega | (simp [crS_s, mvd, c21]; try rfl)) (by first | rfl | omega | (simp [crS_s, mvd, c21]; try rfl))
        · skip
          refine ev_ild2 25 dX11_creditsMovedIn_24 rfl ?_
          refine ev_ald0 26 dX11_creditsMovedIn_25 rfl ?_
          refine ev_getfield 29 13 0 fl_X11_12_13 (tr0 hT) rfl dX11_creditsMovedIn_26 rfl ?_
          refine ev_ild3 30 dX11_creditsMovedIn_29 rfl ?_
          refine tc_V1 33 2 dX11_creditsMovedIn_30 lkv_X11_276 (tr1_0 hT) rfl rfl (by first | decide | omega) (Nat.le_of_ble_eq_true rfl) (g_C hT hW (by omega)) ?_
          refine ev_castS 36 dX11_creditsMovedIn_33 cl_X11_79 (tr12 hT (by first | assumption | exact wx_stu hW (by omega) | exact wx_crs hW (by omega) | exact wx_new hW)) rfl rfl ?_
          refine ev_getfield 39 5 1 fl_X11_292_5 (tr12 hT (by first | assumption | exact wx_stu hW (by omega) | exact wx_crs hW (by omega) | exact wx_new hW)) rfl dX11_creditsMovedIn_36 rfl ?_
          refine tj_iadd 40 dX11_creditsMovedIn_39 rfl ?_
          refine ev_ist2 41 dX11_creditsMovedIn_40 rfl (by decide) rfl ?_
          refine tj_inc3 44 dX11_creditsMovedIn_41 rfl (by decide) rfl ?_
          refine ev_goto 4 dX11_creditsMovedIn_44 (by decide) ?_
          exact ih4 (c + 1) _ _ (by omega) (by first | omega | assumption | omega) (by first | rfl | omega | (simp [crS_s, mvd, c21]; try rfl)) (by first | rfl | omega | (simp [crS_s, mvd, c21]; try rfl))
  exact lp4 _ (0) _ _ (Nat.lt_succ_self _) (by first | omega | assumption | omega) (by first | rfl | omega | (simp [crS_s, mvd, c21]; try rfl)) (by first | rfl | omega | (simp [crS_s, mvd, c21]; try rfl))
set_option maxRecDepth 100000 in
set_option maxHeartbeats 4000000 in
theorem c_X11_loadOn {g : Gt} {α : AL} {ν : Nat → Nat → Bool} {X : XM} {h : AH} (hT : TR g α ν X h) (hW : WX ν X) {s : Nat} (hs : ν 4 s = true) (hl : s < 17) : Pr g M_X11_loadOn 3 [.ref (α 0 0), .ref (α 4 s)] h (some (.int (J (load X s)))) := by
  refine pr_of rfl rfl (ls := [some (.ref (α 0 0)), some (.ref (α 4 s)), none, none]) rfl (Nat.le_of_ble_eq_true rfl) ?_
  show Ev g M_X11_loadOn 3 0 [some (.ref (α 0 0)), some (.ref (α 4 s)), none, none] [] h 0 0 (PQ (some (.int (J (load X s)))) h)
  have q1 := wo_nC hW.1
  have q3 := wo_nS hW.1
  refine tj_iconst 1 dX11_loadOn_0 rfl ?_
  refine ev_ist2 2 dX11_loadOn_1 rfl (by decide) rfl ?_
  refine tj_iconst 3 dX11_loadOn_2 rfl ?_
  refine ev_ist3 4 dX11_loadOn_3 rfl (by decide) rfl ?_
  have lp4 : ∀ (n4 : Nat) (c : Nat) (z2 : Int) (z3 : Int) , 20 - c < n4 → ((c : Int) ≤ nC X) → z2 = crS X (tak X s) c → z3 = (c : Int) → Ev g M_X11_loadOn 3 4 [some (.ref (α 0 0)), some (.ref (α 4 s)), some (.int (J z2)), some (.int (J z3))] [] h 0 0 (PQ (some (.int (J (load X s)))) h) := by
    intro n4
    induction n4 with
    | zero => intro c z2 z3 hm; exact absurd hm (Nat.not_lt_zero _)
    | succ n4 ih4 =>
      intro c z2 z3 hm4 hc e2 e3
      subst e2
      subst e3
      have q2 := crS_0 hW.1 (tak X s) c (by omega)
      refine ev_ild3 5 dX11_loadOn_4 rfl ?_
      refine ev_ald0 6 dX11_loadOn_5 rfl ?_
      refine ev_getfield 9 13 0 fl_X11_12_13 (tr0 hT) rfl dX11_loadOn_6 rfl ?_
      refine tc_V0 12 2 dX11_loadOn_9 lkv_X11_70 (tr1_0 hT) rfl rfl (by first | decide | omega) (Nat.le_of_ble_eq_true rfl) (z_C hT hW) ?_
      refine tj_icmp_ge 47 15 dX11_loadOn_12 (by decide) rfl (by first | exact TR.rng hT _ _ _ | exact R31_of _ | exact bi_R _ | (constructor <;> omega)) (by first | exact TR.rng hT _ _ _ | exact R31_of _ | exact bi_R _ | (constructor <;> omega)) (fun c12 => ?_) (fun c12 => ?_)
      · skip
        refine ev_ild2 48 dX11_loadOn_47 rfl ?_
        exact ev_ireturn (pq_i (by first | rfl | omega | exact bi_dt (by omega) | exact bi_df (by omega) | (rw [show c = (nC X).toNat by omega]; rfl))) rfl dX11_loadOn_48
      · skip
        refine ev_ald1 16 dX11_loadOn_15 rfl ?_
        refine ev_getfield 19 10 1 fl_X11_214_10 (tr4 hT (by first | assumption | exact wx_stu hW (by omega) | exact wx_crs hW (by omega) | exact wx_new hW) (by omega)) rfl dX11_loadOn_16 rfl ?_
        refine ev_ild3 20 dX11_loadOn_19 rfl ?_
        refine tv_zald 21 (tr5 hT (by first | assumption | exact wx_stu hW (by omega) | exact wx_crs hW (by omega) | exact wx_new hW) (by omega)) (c) (by omega) (by omega) (by omega) dX11_loadOn_20 rfl ?_
        refine tj_if_eq 41 24 dX11_loadOn_21 (by decide) rfl (by first | exact TR.rng hT _ _ _ | exact R31_of _ | exact bi_R _ | (constructor <;> omega)) (fun c21 => ?_) (fun c21 => ?_)
        · skip
          refine tj_inc3 44 dX11_loadOn_41 rfl (by decide) rfl ?_
          refine ev_goto 4 dX11_loadOn_44 (by decide) ?_
          exact ih4 (c + 1) _ _ (by omega) (by first | omega | assumption | omega) (by first | rfl | omega | (simp [crS_s, tak, c21]; try rfl)) (by first | rfl | omega | (simp [crS_s, tak, c21]; try rfl))
        · skip
          refine ev_ild2 25 dX11_loadOn_24 rfl ?_
          refine ev_ald0 26 dX11_loadOn_25 rfl ?_
          refine ev_getfield 29 13 0 fl_X11_12_13 (tr0 hT) rfl dX11_loadOn_26 rfl ?_
          refine ev_ild3 30 dX11_loadOn_29 rfl ?_
          refine tc_V1 33 2 dX11_loadOn_30 lkv_X11_276 (tr1_0 hT) rfl rfl (by first | decide | omega) (Nat.le_of_ble_eq_true rfl) (g_C hT hW (by omega)) ?_
          refine ev_castS 36 dX11_loadOn_33 cl_X11_79 (tr12 hT (by first | assumption | exact wx_stu hW (by omega) | exact wx_crs hW (by omega) | exact wx_new hW)) rfl rfl ?_
          refine ev_getfield 39 5 1 fl_X11_292_5 (tr12 hT (by first | assumption | exact wx_stu hW (by omega) | exact wx_crs hW (by omega) | exact wx_new hW)) rfl dX11_loadOn_36 rfl ?_
          refine tj_iadd 40 dX11_loadOn_39 rfl ?_
          refine ev_ist2 41 dX11_loadOn_40 rfl (by decide) rfl ?_
          refine tj_inc3 44 dX11_loadOn_41 rfl (by decide) rfl ?_
          refine ev_goto 4 dX11_loadOn_44 (by decide) ?_
          exact ih4 (c + 1) _ _ (by omega) (by first | omega | assumption | omega) (by first | rfl | omega | (simp [crS_s, tak, c21]; try rfl)) (by first | rfl | omega | (simp [crS_s, tak, c21]; try rfl))
  exact lp4 _ (0) _ _ (Nat.lt_succ_self _) (by first | omega | assumption | omega) (by first | rfl | omega | (simp [crS_s, tak, c21]; try rfl)) (by first | rfl | omega | (simp [crS_s, tak, c21]; try rfl))
set_option maxRecDepth 100000 in
set_option maxHeartbeats 4000000 in
theorem c_X11_canBear {g : Gt} {α : AL} {ν : Nat → Nat → Bool} {X : XM} {h : AH} (hT : TR g α ν X h) (hW : WX ν X) {s : Nat} (hs : ν 4 s = true) (hl : s < 17) {c : Nat} (hc : (c : Int) < nC X) : Pr g M_X11_canBear 4 [.ref (α 0 0), .ref (α 4 s), .ref (α 12 c)] h (some (.int (J (bi (fitsL X s c))))) := by
  refine pr_of rfl rfl (ls := [some (.ref (α 0 0)), some (.ref (α 4 s)), some (.ref (α 12 c))]) rfl (Nat.le_of_ble_eq_true rfl) ?_
  show Ev g M_X11_canBear 4 0 [some (.ref (α 0 0)), some (.ref (α 4 s)), some (.ref (α 12 c))] [] h 0 0 (PQ (some (.int (J (bi (fitsL X s c))))) h)
  have q1 := wo_nC hW.1
  have q3 := wo_nS hW.1
  have q5 := wo_crd hW.1 c hc
  have q6 : 0 ≤ load X s ∧ load X s ≤ 6 * ((nC X).toNat : Int) := crS_0 hW.1 (tak X s) (nC X).toNat (by omega)
  refine ev_ald0 1 dX11_canBear_0 rfl ?_
  refine ev_ald1 2 dX11_canBear_1 rfl ?_
  refine tc_V1 5 13 dX11_canBear_2 lkv_X11_266 (tr0 hT) rfl rfl (by first | decide | omega) (Nat.le_of_ble_eq_true rfl) (c_X11_loadOn hT hW (by first | assumption | exact wx_stu hW (by omega) | exact wx_new hW) (by omega)) ?_
  refine ev_ald2 6 dX11_canBear_5 rfl ?_
  refine ev_getfield 9 5 1 fl_X11_292_5 (tr12 hT (by first | assumption | exact wx_stu hW (by omega) | exact wx_crs hW (by omega) | exact wx_new hW)) rfl dX11_canBear_6 rfl ?_
  refine tj_iadd 10 dX11_canBear_9 rfl ?_
  refine tj_bipush 12 dX11_canBear_10 (by decide) rfl ?_
  refine tj_icmp_gt 19 15 dX11_canBear_12 (by decide) rfl (by first | exact TR.rng hT _ _ _ | exact R31_of _ | exact bi_R _ | (constructor <;> omega)) (by first | exact TR.rng hT _ _ _ | exact R31_of _ | exact bi_R _ | (constructor <;> omega)) (fun c12 => ?_) (fun c12 => ?_)
  · skip
    refine tj_iconst 20 dX11_canBear_19 rfl ?_
    exact tz_ret (by first | rfl | omega | exact bi_dt (by omega) | exact bi_df (by omega) | (skip)) rfl dX11_canBear_20
  · skip
    refine tj_iconst 16 dX11_canBear_15 rfl ?_
    refine ev_goto 20 dX11_canBear_16 (by decide) ?_
    exact tz_ret (by first | rfl | omega | exact bi_dt (by omega) | exact bi_df (by omega) | (skip)) rfl dX11_canBear_20
set_option maxRecDepth 100000 in
set_option maxHeartbeats 4000000 in
theorem c_X11_freeFor {g : Gt} {α : AL} {ν : Nat → Nat → Bool} {X : XM} {h : AH} (hT : TR g α ν X h) (hW : WX ν X) {c : Nat} (hc : (c : Int) < nC X){m : Int} (hm : R31 m) : Pr g M_X11_freeFor 4 [.ref (α 0 0), .ref (α 12 c), .int (J m)] h (some (.int (J (free X c m)))) := by
  refine pr_of rfl rfl (ls := [some (.ref (α 0 0)), some (.ref (α 12 c)), some (.int (J m)), none, none]) rfl (Nat.le_of_ble_eq_true rfl) ?_
  show Ev g M_X11_freeFor 4 0 [some (.ref (α 0 0)), some (.ref (α 12 c)), some (.int (J m)), none, none] [] h 0 0 (PQ (some (.int (J (free X c m)))) h)
  have q1 := wo_nC hW.1
  have q3 := wo_nS hW.1
  have q4 := enr_0 hW.1 c
  have q6 := wo_sea hW.1 c hc
  have q8 := wo_day hW.1
  refine ev_ald1 1 dX11_freeFor_0 rfl ?_
  refine ev_getfield 4 5 2 fl_X11_113_5 (tr12 hT (by first | assumption | exact wx_stu hW (by omega) | exact wx_crs hW (by omega) | exact wx_new hW)) rfl dX11_freeFor_1 rfl ?_
  refine ev_ald0 5 dX11_freeFor_4 rfl ?_
  refine ev_ald1 6 dX11_freeFor_5 rfl ?_
  refine tc_V1 9 13 dX11_freeFor_6 lkv_X11_314 (tr0 hT) rfl rfl (by first | decide | omega) (Nat.le_of_ble_eq_true rfl) (c_X11_takersOf hT hW (by omega)) ?_
  refine tj_isub 10 dX11_freeFor_9 rfl ?_
  refine ev_ist3 11 dX11_freeFor_10 rfl (by decide) rfl ?_
  refine ev_ald0 12 dX11_freeFor_11 rfl ?_
  refine ev_getfield 15 13 5 fl_X11_180_13 (tr0 hT) rfl dX11_freeFor_12 rfl ?_
  refine tj_iconst 16 dX11_freeFor_15 rfl ?_
  refine tj_icmp_gt 62 19 dX11_freeFor_16 (by decide) rfl (by first | exact TR.rng hT _ _ _ | exact R31_of _ | exact bi_R _ | (constructor <;> omega)) (by first | exact TR.rng hT _ _ _ | exact R31_of _ | exact bi_R _ | (constructor <;> omega)) (fun c16 => ?_) (fun c16 => ?_)
  · skip
    refine tj_iconst 63 dX11_freeFor_62 rfl ?_
    refine ev_ild3 64 dX11_freeFor_63 rfl ?_
    refine tj_mmax 67 dX11_freeFor_64 mmax_X11_153 (by decide) (Nat.le_of_ble_eq_true rfl) rfl (by first | exact TR.rng hT _ _ _ | exact R31_of _ | exact bi_R _ | (constructor <;> omega)) (by first | exact TR.rng hT _ _ _ | exact R31_of _ | exact bi_R _ | (constructor <;> omega)) ?_
    exact ev_ireturn (pq_i (by first | rfl | omega | exact bi_dt (by omega) | exact bi_df (by omega) | (first | (have e : free0 X c m = X 12 c 2 - enr X c - kept X c m k := (by unfold free0; rw [if_pos (by assumption), show k = 4 by omega]); unfold free; rw [e]; split <;> split <;> omega) | (have e : free0 X c m = X 12 c 2 - enr X c := (by unfold free0; rw [if_neg (by omega)]; omega); unfold free; rw [e]; split <;> split <;> omega)))) rfl dX11_freeFor_67
  · skip
    refine tj_iconst 20 dX11_freeFor_19 rfl ?_
    refine ev_ist4 22 dX11_freeFor_20 rfl (by decide) rfl ?_
    have lp22 : ∀ (n22 : Nat) (k : Nat) (z3 : Int) (z4 : Int) , 5 - k < n22 → (k ≤ 4) → z3 = X 12 c 2 - enr X c - kept X c m k → z4 = (k : Int) → Ev g M_X11_freeFor 4 22 [some (.ref (α 0 0)), some (.ref (α 12 c)), some (.int (J m)), some (.int (J z3)), some (.int (J z4))] [] h 0 0 (PQ (some (.int (J (free X c m)))) h) := by
      intro n22
      induction n22 with
      | zero => intro k z3 z4 hm; exact absurd hm (Nat.not_lt_zero _)
      | succ n22 ih22 =>
        intro k z3 z4 hm22 hk e3 e4
        subst e3
        subst e4
        have k1 := kept_0 hW.1 hc m k hk
        have k2 := kept_s X c m k
        have k3 := enrM_0 hW.1 c k
        refine ev_ild4 24 dX11_freeFor_22 rfl ?_
        refine tj_iconst 25 dX11_freeFor_24 rfl ?_
        refine tj_icmp_ge 62 28 dX11_freeFor_25 (by decide) rfl (by first | exact TR.rng hT _ _ _ | exact R31_of _ | exact bi_R _ | (constructor <;> omega)) (by first | exact TR.rng hT _ _ _ | exact R31_of _ | exact bi_R _ | (constructor <;> omega)) (fun c25 => ?_) (fun c25 => ?_)
        · skip
          refine tj_iconst 63 dX11_freeFor_62 rfl ?_
          refine ev_ild3 64 dX11_freeFor_63 rfl ?_
          refine tj_mmax 67 dX11_freeFor_64 mmax_X11_153 (by decide) (Nat.le_of_ble_eq_true rfl) rfl (by first | exact TR.rng hT _ _ _ | exact R31_of _ | exact bi_R _ | (constructor <;> omega)) (by first | exact TR.rng hT _ _ _ | exact R31_of _ | exact bi_R _ | (constructor <;> omega)) ?_
          exact ev_ireturn (pq_i (by first | rfl | omega | exact bi_dt (by omega) | exact bi_df (by omega) | (first | (have e : free0 X c m = X 12 c 2 - enr X c - kept X c m k := (by unfold free0; rw [if_pos (by assumption), show k = 4 by omega]); unfold free; rw [e]; split <;> split <;> omega) | (have e : free0 X c m = X 12 c 2 - enr X c := (by unfold free0; rw [if_neg (by omega)]; omega); unfold free; rw [e]; split <;> split <;> omega)))) rfl dX11_freeFor_67
        · skip
          have k5 := wo_res hW.1 c k hc (by omega)
          refine ev_ild4 30 dX11_freeFor_28 rfl ?_
          refine ev_ild2 31 dX11_freeFor_30 rfl ?_
          refine tj_icmp_eq 56 34 dX11_freeFor_31 (by decide) rfl (by first | exact TR.rng hT _ _ _ | exact R31_of _ | exact bi_R _ | (constructor <;> omega)) (by first | exact TR.rng hT _ _ _ | exact R31_of _ | exact bi_R _ | (constructor <;> omega)) (fun c31 => ?_) (fun c31 => ?_)
          · skip
            refine tj_inc4 59 dX11_freeFor_56 rfl (by decide) rfl ?_
            refine ev_goto 22 dX11_freeFor_59 (by decide) ?_
            exact ih22 (k + 1) _ _ (by omega) (by first | omega | assumption | omega) (by first | rfl | omega | (first | (simp [kept]; done) | (rw [k2]; split <;> split <;> omega) | (rw [k2, if_neg (by omega)]; omega))) (by first | rfl | omega | (first | (simp [kept]; done) | (rw [k2]; split <;> split <;> omega) | (rw [k2, if_neg (by omega)]; omega)))
          · skip
            refine ev_ild3 35 dX11_freeFor_34 rfl ?_
            refine tj_iconst 36 dX11_freeFor_35 rfl ?_
            refine ev_ald1 37 dX11_freeFor_36 rfl ?_
            refine ev_getfield 40 5 3 fl_X11_110_5 (tr12 hT (by first | assumption | exact wx_stu hW (by omega) | exact wx_crs hW (by omega) | exact wx_new hW)) rfl dX11_freeFor_37 rfl ?_
            refine ev_ild4 42 dX11_freeFor_40 rfl ?_
            refine tv_iald 43 (tr13 hT (by first | assumption | exact wx_stu hW (by omega) | exact wx_crs hW (by omega) | exact wx_new hW)) (k) (by omega) (by omega) (by omega) dX11_freeFor_42 rfl ?_
            refine ev_ald0 44 dX11_freeFor_43 rfl ?_
            refine ev_ald1 45 dX11_freeFor_44 rfl ?_
            refine ev_ild4 47 dX11_freeFor_45 rfl ?_
            refine tc_V2 50 13 dX11_freeFor_47 lkv_X11_431 (tr0 hT) rfl rfl (by first | decide | omega) (Nat.le_of_ble_eq_true rfl) (c_X11_takersOfMajor hT hW (by omega) (by first | exact TR.rng hT _ _ _ | exact R31_of _ | exact bi_R _ | (constructor <;> omega))) ?_
            refine tj_isub 51 dX11_freeFor_50 rfl ?_
            refine tj_mmax 54 dX11_freeFor_51 mmax_X11_153 (by decide) (Nat.le_of_ble_eq_true rfl) rfl (by first | exact TR.rng hT _ _ _ | exact R31_of _ | exact bi_R _ | (constructor <;> omega)) (by first | exact TR.rng hT _ _ _ | exact R31_of _ | exact bi_R _ | (constructor <;> omega)) ?_
            refine tj_isub 55 dX11_freeFor_54 rfl ?_
            refine ev_ist3 56 dX11_freeFor_55 rfl (by decide) rfl ?_
            refine tj_inc4 59 dX11_freeFor_56 rfl (by decide) rfl ?_
            refine ev_goto 22 dX11_freeFor_59 (by decide) ?_
            exact ih22 (k + 1) _ _ (by omega) (by first | omega | assumption | omega) (by first | rfl | omega | (first | (simp [kept]; done) | (rw [k2]; split <;> split <;> omega) | (rw [k2, if_neg (by omega)]; omega))) (by first | rfl | omega | (first | (simp [kept]; done) | (rw [k2]; split <;> split <;> omega) | (rw [k2, if_neg (by omega)]; omega)))
    exact lp22 _ (0) _ _ (Nat.lt_succ_self _) (by first | omega | assumption | omega) (by first | rfl | omega | (first | (simp [kept]; done) | (rw [k2]; split <;> split <;> omega) | (rw [k2, if_neg (by omega)]; omega))) (by first | rfl | omega | (first | (simp [kept]; done) | (rw [k2]; split <;> split <;> omega) | (rw [k2, if_neg (by omega)]; omega)))
set_option maxRecDepth 100000 in
set_option maxHeartbeats 4000000 in
theorem c_X11_studentAt_ok {g : Gt} {α : AL} {ν : Nat → Nat → Bool} {X : XM} {h : AH} (hT : TR g α ν X h) (hW : WX ν X) {j : Nat} (hj : (j : Int) < nS X) : Pr g M_X11_studentAt 8 [.ref (α 0 0), .int (J (j : Int))] h (some (.ref (α 4 j))) := by
  refine pr_of rfl rfl (ls := [some (.ref (α 0 0)), some (.int (J (j : Int)))]) rfl (Nat.le_of_ble_eq_true rfl) ?_
  show Ev g M_X11_studentAt 8 0 [some (.ref (α 0 0)), some (.int (J (j : Int)))] [] h 0 0 (PQ (some (.ref (α 4 j))) h)
  have q1 := wo_nC hW.1
  have q3 := wo_nS hW.1
  refine ev_ild1 1 dX11_studentAt_0 rfl ?_
  refine tj_if_lt 15 4 dX11_studentAt_1 (by decide) rfl (by first | exact TR.rng hT _ _ _ | exact R31_of _ | exact bi_R _ | (constructor <;> omega)) (fun c1 => ?_) (fun c1 => ?_)
  · exact False.elim (by omega)
  · skip
    refine ev_ild1 5 dX11_studentAt_4 rfl ?_
    refine ev_ald0 6 dX11_studentAt_5 rfl ?_
    refine ev_getfield 9 13 1 fl_X11_16_13 (tr0 hT) rfl dX11_studentAt_6 rfl ?_
    refine tc_V0 12 2 dX11_studentAt_9 lkv_X11_70 (tr1_1 hT) rfl rfl (by first | decide | omega) (Nat.le_of_ble_eq_true rfl) (z_S hT hW) ?_
    refine tj_icmp_lt 26 15 dX11_studentAt_12 (by decide) rfl (by first | exact TR.rng hT _ _ _ | exact R31_of _ | exact bi_R _ | (constructor <;> omega)) (by first | exact TR.rng hT _ _ _ | exact R31_of _ | exact bi_R _ | (constructor <;> omega)) (fun c12 => ?_) (fun c12 => ?_)
    · skip
      refine ev_ald0 27 dX11_studentAt_26 rfl ?_
      refine ev_getfield 30 13 1 fl_X11_16_13 (tr0 hT) rfl dX11_studentAt_27 rfl ?_
      refine ev_ild1 31 dX11_studentAt_30 rfl ?_
      refine tc_V1 34 2 dX11_studentAt_31 lkv_X11_276 (tr1_1 hT) rfl rfl (by first | decide | omega) (Nat.le_of_ble_eq_true rfl) (g_S hT hW (by omega)) ?_
      refine ev_castS 37 dX11_studentAt_34 cl_X11_29 (tr4 hT (by first | assumption | exact wx_stu hW (by omega) | exact wx_crs hW (by omega) | exact wx_new hW) (by omega)) rfl rfl ?_
      exact ev_areturn ⟨rfl, rfl⟩ rfl dX11_studentAt_37
    · exact False.elim (by omega)
set_option maxRecDepth 100000 in
set_option maxHeartbeats 4000000 in
theorem c_X11_courseAt_ok {g : Gt} {α : AL} {ν : Nat → Nat → Bool} {X : XM} {h : AH} (hT : TR g α ν X h) (hW : WX ν X) {j : Nat} (hj : (j : Int) < nC X) : Pr g M_X11_courseAt 8 [.ref (α 0 0), .int (J (j : Int))] h (some (.ref (α 12 j))) := by
  refine pr_of rfl rfl (ls := [some (.ref (α 0 0)), some (.int (J (j : Int)))]) rfl (Nat.le_of_ble_eq_true rfl) ?_
  show Ev g M_X11_courseAt 8 0 [some (.ref (α 0 0)), some (.int (J (j : Int)))] [] h 0 0 (PQ (some (.ref (α 12 j))) h)
  have q1 := wo_nC hW.1
  have q3 := wo_nS hW.1
  refine ev_ild1 1 dX11_courseAt_0 rfl ?_
  refine tj_if_lt 15 4 dX11_courseAt_1 (by decide) rfl (by first | exact TR.rng hT _ _ _ | exact R31_of _ | exact bi_R _ | (constructor <;> omega)) (fun c1 => ?_) (fun c1 => ?_)
  · exact False.elim (by omega)
  · skip
    refine ev_ild1 5 dX11_courseAt_4 rfl ?_
    refine ev_ald0 6 dX11_courseAt_5 rfl ?_
    refine ev_getfield 9 13 0 fl_X11_12_13 (tr0 hT) rfl dX11_courseAt_6 rfl ?_
    refine tc_V0 12 2 dX11_courseAt_9 lkv_X11_70 (tr1_0 hT) rfl rfl (by first | decide | omega) (Nat.le_of_ble_eq_true rfl) (z_C hT hW) ?_
    refine tj_icmp_lt 26 15 dX11_courseAt_12 (by decide) rfl (by first | exact TR.rng hT _ _ _ | exact R31_of _ | exact bi_R _ | (constructor <;> omega)) (by first | exact TR.rng hT _ _ _ | exact R31_of _ | exact bi_R _ | (constructor <;> omega)) (fun c12 => ?_) (fun c12 => ?_)
    · skip
      refine ev_ald0 27 dX11_courseAt_26 rfl ?_
      refine ev_getfield 30 13 0 fl_X11_12_13 (tr0 hT) rfl dX11_courseAt_27 rfl ?_
      refine ev_ild1 31 dX11_courseAt_30 rfl ?_
      refine tc_V1 34 2 dX11_courseAt_31 lkv_X11_276 (tr1_0 hT) rfl rfl (by first | decide | omega) (Nat.le_of_ble_eq_true rfl) (g_C hT hW (by omega)) ?_
      refine ev_castS 37 dX11_courseAt_34 cl_X11_79 (tr12 hT (by first | assumption | exact wx_stu hW (by omega) | exact wx_crs hW (by omega) | exact wx_new hW)) rfl rfl ?_
      exact ev_areturn ⟨rfl, rfl⟩ rfl dX11_courseAt_37
    · exact False.elim (by omega)
