/-! shares and averages -/
set_option maxRecDepth 100000 in
set_option maxHeartbeats 4000000 in
theorem c_X11_share_b1 {g : Gt} {α : AL} {ν : Nat → Nat → Bool} {X : XM} {h : AH} (hT : TR g α ν X h) (hW : WX ν X) {b : Int} (hb : R31 b) (hn : ¬ (0 ≤ b ∧ b < nC X)) : Th g M_X11_share 28 [.ref (α 0 0), .int (J b)] h "java/lang/IndexOutOfBoundsException" := by
  refine th_of rfl rfl (ls := [some (.ref (α 0 0)), some (.int (J b)), none]) rfl (Nat.le_of_ble_eq_true rfl) ?_
  show Ev g M_X11_share 28 0 [some (.ref (α 0 0)), some (.int (J b)), none] [] h 1 6 (TQ "java/lang/IndexOutOfBoundsException" h)
  have q1 := wo_nC hW.1
  have q3 := wo_nS hW.1
  refine ev_ald0 1 dX11_share_0 rfl ?_
  refine ev_ild1 2 dX11_share_1 rfl ?_
  exact tx_V1 5 13 dX11_share_2 lkv_X11_104 (tr0 hT) rfl rfl (by first | decide | omega) (Nat.le_of_ble_eq_true rfl) rfl (by decide) (by decide) (c_X11_courseAt_no hT hW hb hn) ⟨rfl, rfl⟩
set_option maxRecDepth 100000 in
set_option maxHeartbeats 4000000 in
theorem c_X11_share_ok {g : Gt} {α : AL} {ν : Nat → Nat → Bool} {X : XM} {h : AH} (hT : TR g α ν X h) (hW : WX ν X) {c : Nat} (hc : (c : Int) < nC X) : Pr g M_X11_share 28 [.ref (α 0 0), .int (J (c : Int))] h (some (.float (FP.fdiv (FP.i2f (J (enr X c))) (FP.i2f (J (X 12 c 2)))))) := by
  refine pr_of rfl rfl (ls := [some (.ref (α 0 0)), some (.int (J (c : Int))), none]) rfl (Nat.le_of_ble_eq_true rfl) ?_
  show Ev g M_X11_share 28 0 [some (.ref (α 0 0)), some (.int (J (c : Int))), none] [] h 0 0 (PQ (some (.float (FP.fdiv (FP.i2f (J (enr X c))) (FP.i2f (J (X 12 c 2)))))) h)
  have q1 := wo_nC hW.1
  have q3 := wo_nS hW.1
  have h1 := enr_0 hW.1 c
  have h2 := wo_sea hW.1 c hc
  refine ev_ald0 1 dX11_share_0 rfl ?_
  refine ev_ild1 2 dX11_share_1 rfl ?_
  refine tc_V1 5 13 dX11_share_2 lkv_X11_104 (tr0 hT) rfl rfl (by first | decide | omega) (Nat.le_of_ble_eq_true rfl) (c_X11_courseAt_ok hT hW (by omega)) ?_
  refine ev_ast2 6 dX11_share_5 rfl (by decide) rfl ?_
  refine ev_ald0 7 dX11_share_6 rfl ?_
  refine ev_ald2 8 dX11_share_7 rfl ?_
  refine tc_V1 11 13 dX11_share_8 lkv_X11_314 (tr0 hT) rfl rfl (by first | decide | omega) (Nat.le_of_ble_eq_true rfl) (c_X11_takersOf hT hW (by omega)) ?_
  refine ev_i2f 12 dX11_share_11 rfl ?_
  refine ev_ald2 13 dX11_share_12 rfl ?_
  refine ev_getfield 16 5 2 fl_X11_113_5 (tr12 hT (by first | assumption | exact wx_stu hW (by omega) | exact wx_crs hW (by omega) | exact wx_new hW)) rfl dX11_share_13 rfl ?_
  refine ev_i2f 17 dX11_share_16 rfl ?_
  refine ev_fdiv 18 dX11_share_17 (fd_J (by omega) (by omega)) rfl ?_
  exact ev_freturn ⟨by rfl, rfl⟩ rfl dX11_share_18
set_option maxRecDepth 100000 in
set_option maxHeartbeats 4000000 in
theorem c_X11_average_b1 {g : Gt} {α : AL} {ν : Nat → Nat → Bool} {X : XM} {h : AH} (hT : TR g α ν X h) (hW : WX ν X) {b : Int} (hb : R31 b) (hn : ¬ (0 ≤ b ∧ b < nS X)) : Th g M_X11_average 28 [.ref (α 0 0), .int (J b)] h "java/lang/IndexOutOfBoundsException" := by
  refine th_of rfl rfl (ls := [some (.ref (α 0 0)), some (.int (J b)), none, none, none, none, none, none]) rfl (Nat.le_of_ble_eq_true rfl) ?_
  show Ev g M_X11_average 28 0 [some (.ref (α 0 0)), some (.int (J b)), none, none, none, none, none, none] [] h 1 6 (TQ "java/lang/IndexOutOfBoundsException" h)
  have q1 := wo_nC hW.1
  have q3 := wo_nS hW.1
  refine ev_ald0 1 dX11_average_0 rfl ?_
  refine ev_ild1 2 dX11_average_1 rfl ?_
  exact tx_V1 5 13 dX11_average_2 lkv_X11_93 (tr0 hT) rfl rfl (by first | decide | omega) (Nat.le_of_ble_eq_true rfl) rfl (by decide) (by decide) (c_X11_studentAt_no hT hW hb hn) ⟨rfl, rfl⟩
set_option maxRecDepth 100000 in
set_option maxHeartbeats 4000000 in
theorem c_X11_average_ok {g : Gt} {α : AL} {ν : Nat → Nat → Bool} {X : XM} {h : AH} (hT : TR g α ν X h) (hW : WX ν X) {s : Nat} (hs0 : (s : Int) < nS X) (hz : avW X s (nC X).toNat ≠ 0) : Pr g M_X11_average 28 [.ref (α 0 0), .int (J (s : Int))] h (some (.double (FP.ddiv (FP.i2d (J (avS X s (nC X).toNat))) (FP.i2d (J (avW X s (nC X).toNat)))))) := by
  refine pr_of rfl rfl (ls := [some (.ref (α 0 0)), some (.int (J (s : Int))), none, none, none, none, none, none]) rfl (Nat.le_of_ble_eq_true rfl) ?_
  show Ev g M_X11_average 28 0 [some (.ref (α 0 0)), some (.int (J (s : Int))), none, none, none, none, none, none] [] h 0 0 (PQ (some (.double (FP.ddiv (FP.i2d (J (avS X s (nC X).toNat))) (FP.i2d (J (avW X s (nC X).toNat)))))) h)
  have q1 := wo_nC hW.1
  have q3 := wo_nS hW.1
  have hs := wx_stu hW hs0
  have hl : s < 17 := by omega
  have ha := av_R hW.1 hs0 (nC X).toNat (by omega)
  refine ev_ald0 1 dX11_average_0 rfl ?_
  refine ev_ild1 2 dX11_average_1 rfl ?_
  refine tc_V1 5 13 dX11_average_2 lkv_X11_93 (tr0 hT) rfl rfl (by first | decide | omega) (Nat.le_of_ble_eq_true rfl) (c_X11_studentAt_ok hT hW (by omega)) ?_
  refine ev_ast2 6 dX11_average_5 rfl (by decide) rfl ?_
  refine tj_iconst 7 dX11_average_6 rfl ?_
  refine ev_ist3 8 dX11_average_7 rfl (by decide) rfl ?_
  refine tj_iconst 9 dX11_average_8 rfl ?_
  refine ev_ist4 11 dX11_average_9 rfl (by decide) rfl ?_
  refine tj_iconst 12 dX11_average_11 rfl ?_
  refine ev_ist5 14 dX11_average_12 rfl (by decide) rfl ?_
  have lp14 : ∀ (n14 : Nat) (c : Nat) (z3 : Int) (z4 : Int) (z5 : Int) (o6 o7 : Option Value), 20 - c < n14 → ((c : Int) ≤ nC X) → z3 = avS X s c → z4 = avW X s c → z5 = (c : Int) → Ev g M_X11_average 28 14 [some (.ref (α 0 0)), some (.int (J (s : Int))), some (.ref (α 4 s)), some (.int (J z3)), some (.int (J z4)), some (.int (J z5)), o6, o7] [] h 0 0 (PQ (some (.double (FP.ddiv (FP.i2d (J (avS X s (nC X).toNat))) (FP.i2d (J (avW X s (nC X).toNat)))))) h) := by
    intro n14
    induction n14 with
    | zero => intro c z3 z4 z5 o6 o7 hm; exact absurd hm (Nat.not_lt_zero _)
    | succ n14 ih14 =>
      intro c z3 z4 z5 o6 o7 hm14 hc e3 e4 e5
      subst e3
      subst e4
      subst e5
      refine ev_ild5 16 dX11_average_14 rfl ?_
      refine ev_ald0 17 dX11_average_16 rfl ?_
      refine ev_getfield 20 13 0 fl_X11_12_13 (tr0 hT) rfl dX11_average_17 rfl ?_
      refine tc_V0 23 2 dX11_average_20 lkv_X11_70 (tr1_0 hT) rfl rfl (by first | decide | omega) (Nat.le_of_ble_eq_true rfl) (z_C hT hW) ?_
      refine tj_icmp_ge 78 26 dX11_average_23 (by decide) rfl (by first | exact TR.rng hT _ _ _ | exact R31_of _ | exact bi_R _ | (constructor <;> omega)) (by first | exact TR.rng hT _ _ _ | exact R31_of _ | exact bi_R _ | (constructor <;> omega)) (fun c23 => ?_) (fun c23 => ?_)
      · skip
        obtain rfl : c = (nC X).toNat := by omega
        refine ev_ild4 80 dX11_average_78 rfl ?_
        refine tj_if_ne 94 83 dX11_average_80 (by decide) rfl (by first | exact TR.rng hT _ _ _ | exact R31_of _ | exact bi_R _ | (constructor <;> omega)) (fun c80 => ?_) (fun c80 => ?_)
        · skip
          refine ev_ild3 95 dX11_average_94 rfl ?_
          refine ev_i2d 96 dX11_average_95 rfl ?_
          refine ev_ild4 98 dX11_average_96 rfl ?_
          refine ev_i2d 99 dX11_average_98 rfl ?_
          refine ev_ddiv 100 dX11_average_99 (dd_J (by constructor <;> omega) hz) rfl ?_
          exact ev_dreturn ⟨by rfl, rfl⟩ rfl dX11_average_100
        · exact False.elim (by omega)
      · skip
        have hl2 := lastM_R hW.1 hs0 (c := c) (by omega)
        refine ev_ald2 27 dX11_average_26 rfl ?_
        refine ev_ild5 29 dX11_average_27 rfl ?_
        refine tc_V1 32 10 dX11_average_29 lkv_X11_308 (tr4 hT (by first | assumption | exact wx_stu hW (by omega) | exact wx_crs hW (by omega) | exact wx_new hW) (by omega)) rfl rfl (by first | decide | omega) (Nat.le_of_ble_eq_true rfl) (c_X8_lastMark hT hW (by omega) (by omega)) ?_
        refine ev_ist6 34 dX11_average_32 rfl (by decide) rfl ?_
        refine ev_ild6 36 dX11_average_34 rfl ?_
        refine tj_iconst 37 dX11_average_36 rfl ?_
        refine tj_icmp_eq 72 40 dX11_average_37 (by decide) rfl (by first | exact TR.rng hT _ _ _ | exact R31_of _ | exact bi_R _ | (constructor <;> omega)) (by first | exact TR.rng hT _ _ _ | exact R31_of _ | exact bi_R _ | (constructor <;> omega)) (fun c37 => ?_) (fun c37 => ?_)
        · skip
          refine tj_inc5 75 dX11_average_72 rfl (by decide) rfl ?_
          refine ev_goto 14 dX11_average_75 (by decide) ?_
          exact ih14 (c + 1) _ _ _ _ _ (by omega) (by first | omega | assumption | omega) (by first | rfl | omega | (first | (rw [avS, if_pos c37]) | (rw [avS, if_neg c37]) | (rw [avW, if_pos c37]) | (rw [avW, if_neg c37]))) (by first | rfl | omega | (first | (rw [avS, if_pos c37]) | (rw [avS, if_neg c37]) | (rw [avW, if_pos c37]) | (rw [avW, if_neg c37]))) (by first | rfl | omega | (first | (rw [avS, if_pos c37]) | (rw [avS, if_neg c37]) | (rw [avW, if_pos c37]) | (rw [avW, if_neg c37])))
        · skip
          refine ev_ald0 41 dX11_average_40 rfl ?_
          refine ev_getfield 44 13 0 fl_X11_12_13 (tr0 hT) rfl dX11_average_41 rfl ?_
          refine ev_ild5 46 dX11_average_44 rfl ?_
          refine tc_V1 49 2 dX11_average_46 lkv_X11_276 (tr1_0 hT) rfl rfl (by first | decide | omega) (Nat.le_of_ble_eq_true rfl) (g_C hT hW (by omega)) ?_
          refine ev_castS 52 dX11_average_49 cl_X11_79 (tr12 hT (by first | assumption | exact wx_stu hW (by omega) | exact wx_crs hW (by omega) | exact wx_new hW)) rfl rfl ?_
          refine ev_getfield 55 5 1 fl_X11_292_5 (tr12 hT (by first | assumption | exact wx_stu hW (by omega) | exact wx_crs hW (by omega) | exact wx_new hW)) rfl dX11_average_52 rfl ?_
          refine ev_ist7 57 dX11_average_55 rfl (by decide) rfl ?_
          refine ev_ild3 58 dX11_average_57 rfl ?_
          refine ev_ild6 60 dX11_average_58 rfl ?_
          refine ev_ild7 62 dX11_average_60 rfl ?_
          refine tj_imul 63 dX11_average_62 rfl ?_
          refine tj_iadd 64 dX11_average_63 rfl ?_
          refine ev_ist3 65 dX11_average_64 rfl (by decide) rfl ?_
          refine ev_ild4 67 dX11_average_65 rfl ?_
          refine ev_ild7 69 dX11_average_67 rfl ?_
          refine tj_iadd 70 dX11_average_69 rfl ?_
          refine ev_ist4 72 dX11_average_70 rfl (by decide) rfl ?_
          refine tj_inc5 75 dX11_average_72 rfl (by decide) rfl ?_
          refine ev_goto 14 dX11_average_75 (by decide) ?_
          exact ih14 (c + 1) _ _ _ _ _ (by omega) (by first | omega | assumption | omega) (by first | rfl | omega | (first | (rw [avS, if_pos c37]) | (rw [avS, if_neg c37]) | (rw [avW, if_pos c37]) | (rw [avW, if_neg c37]))) (by first | rfl | omega | (first | (rw [avS, if_pos c37]) | (rw [avS, if_neg c37]) | (rw [avW, if_pos c37]) | (rw [avW, if_neg c37]))) (by first | rfl | omega | (first | (rw [avS, if_pos c37]) | (rw [avS, if_neg c37]) | (rw [avW, if_pos c37]) | (rw [avW, if_neg c37])))
  exact lp14 _ (0) _ _ _ _ _ (Nat.lt_succ_self _) (by first | omega | assumption | omega) (by first | rfl | omega | (first | (rw [avS, if_pos c37]) | (rw [avS, if_neg c37]) | (rw [avW, if_pos c37]) | (rw [avW, if_neg c37]))) (by first | rfl | omega | (first | (rw [avS, if_pos c37]) | (rw [avS, if_neg c37]) | (rw [avW, if_pos c37]) | (rw [avW, if_neg c37]))) (by first | rfl | omega | (first | (rw [avS, if_pos c37]) | (rw [avS, if_neg c37]) | (rw [avW, if_pos c37]) | (rw [avW, if_neg c37])))
set_option maxRecDepth 100000 in
set_option maxHeartbeats 4000000 in
theorem c_X11_average_x2 {g : Gt} {α : AL} {ν : Nat → Nat → Bool} {X : XM} {h : AH} (hT : TR g α ν X h) (hW : WX ν X) {s : Nat} (hs0 : (s : Int) < nS X) (hz : avW X s (nC X).toNat = 0) : Th g M_X11_average 28 [.ref (α 0 0), .int (J (s : Int))] h "java/lang/ArithmeticException" := by
  refine th_of rfl rfl (ls := [some (.ref (α 0 0)), some (.int (J (s : Int))), none, none, none, none, none, none]) rfl (Nat.le_of_ble_eq_true rfl) ?_
  show Ev g M_X11_average 28 0 [some (.ref (α 0 0)), some (.int (J (s : Int))), none, none, none, none, none, none] [] h 1 6 (TQ "java/lang/ArithmeticException" h)
  have q1 := wo_nC hW.1
  have q3 := wo_nS hW.1
  have hs := wx_stu hW hs0
  have hl : s < 17 := by omega
  have ha := av_R hW.1 hs0 (nC X).toNat (by omega)
  refine ev_ald0 1 dX11_average_0 rfl ?_
  refine ev_ild1 2 dX11_average_1 rfl ?_
  refine tc_V1 5 13 dX11_average_2 lkv_X11_93 (tr0 hT) rfl rfl (by first | decide | omega) (Nat.le_of_ble_eq_true rfl) (c_X11_studentAt_ok hT hW (by omega)) ?_
  refine ev_ast2 6 dX11_average_5 rfl (by decide) rfl ?_
  refine tj_iconst 7 dX11_average_6 rfl ?_
  refine ev_ist3 8 dX11_average_7 rfl (by decide) rfl ?_
  refine tj_iconst 9 dX11_average_8 rfl ?_
  refine ev_ist4 11 dX11_average_9 rfl (by decide) rfl ?_
  refine tj_iconst 12 dX11_average_11 rfl ?_
  refine ev_ist5 14 dX11_average_12 rfl (by decide) rfl ?_
  have lp14 : ∀ (n14 : Nat) (c : Nat) (z3 : Int) (z4 : Int) (z5 : Int) (o6 o7 : Option Value), 20 - c < n14 → ((c : Int) ≤ nC X) → z3 = avS X s c → z4 = avW X s c → z5 = (c : Int) → Ev g M_X11_average 28 14 [some (.ref (α 0 0)), some (.int (J (s : Int))), some (.ref (α 4 s)), some (.int (J z3)), some (.int (J z4)), some (.int (J z5)), o6, o7] [] h 1 6 (TQ "java/lang/ArithmeticException" h) := by
    intro n14
    induction n14 with
    | zero => intro c z3 z4 z5 o6 o7 hm; exact absurd hm (Nat.not_lt_zero _)
    | succ n14 ih14 =>
      intro c z3 z4 z5 o6 o7 hm14 hc e3 e4 e5
      subst e3
      subst e4
      subst e5
      refine ev_ild5 16 dX11_average_14 rfl ?_
      refine ev_ald0 17 dX11_average_16 rfl ?_
      refine ev_getfield 20 13 0 fl_X11_12_13 (tr0 hT) rfl dX11_average_17 rfl ?_
      refine tc_V0 23 2 dX11_average_20 lkv_X11_70 (tr1_0 hT) rfl rfl (by first | decide | omega) (Nat.le_of_ble_eq_true rfl) (z_C hT hW) ?_
      refine tj_icmp_ge 78 26 dX11_average_23 (by decide) rfl (by first | exact TR.rng hT _ _ _ | exact R31_of _ | exact bi_R _ | (constructor <;> omega)) (by first | exact TR.rng hT _ _ _ | exact R31_of _ | exact bi_R _ | (constructor <;> omega)) (fun c23 => ?_) (fun c23 => ?_)
      · skip
        obtain rfl : c = (nC X).toNat := by omega
        refine ev_ild4 80 dX11_average_78 rfl ?_
        refine tj_if_ne 94 83 dX11_average_80 (by decide) rfl (by first | exact TR.rng hT _ _ _ | exact R31_of _ | exact bi_R _ | (constructor <;> omega)) (fun c80 => ?_) (fun c80 => ?_)
        · exact False.elim (by omega)
        · skip
          exact ev_throwSW th_X11_204_312_208 rfl ⟨rfl, rfl⟩ (by decide) (by decide) dX11_average_83 dX11_average_86 dX11_average_87 dX11_average_90 dX11_average_93 (by decide) (by decide)
      · skip
        have hl2 := lastM_R hW.1 hs0 (c := c) (by omega)
        refine ev_ald2 27 dX11_average_26 rfl ?_
        refine ev_ild5 29 dX11_average_27 rfl ?_
        refine tc_V1 32 10 dX11_average_29 lkv_X11_308 (tr4 hT (by first | assumption | exact wx_stu hW (by omega) | exact wx_crs hW (by omega) | exact wx_new hW) (by omega)) rfl rfl (by first | decide | omega) (Nat.le_of_ble_eq_true rfl) (c_X8_lastMark hT hW (by omega) (by omega)) ?_
        refine ev_ist6 34 dX11_average_32 rfl (by decide) rfl ?_
        refine ev_ild6 36 dX11_average_34 rfl ?_
        refine tj_iconst 37 dX11_average_36 rfl ?_
        refine tj_icmp_eq 72 40 dX11_average_37 (by decide) rfl (by first | exact TR.rng hT _ _ _ | exact R31_of _ | exact bi_R _ | (constructor <;> omega)) (by first | exact TR.rng hT _ _ _ | exact R31_of _ | exact bi_R _ | (constructor <;> omega)) (fun c37 => ?_) (fun c37 => ?_)
        · skip
          refine tj_inc5 75 dX11_average_72 rfl (by decide) rfl ?_
          refine ev_goto 14 dX11_average_75 (by decide) ?_
          exact ih14 (c + 1) _ _ _ _ _ (by omega) (by first | omega | assumption | omega) (by first | rfl | omega | (first | (rw [avS, if_pos c37]) | (rw [avS, if_neg c37]) | (rw [avW, if_pos c37]) | (rw [avW, if_neg c37]))) (by first | rfl | omega | (first | (rw [avS, if_pos c37]) | (rw [avS, if_neg c37]) | (rw [avW, if_pos c37]) | (rw [avW, if_neg c37]))) (by first | rfl | omega | (first | (rw [avS, if_pos c37]) | (rw [avS, if_neg c37]) | (rw [avW, if_pos c37]) | (rw [avW, if_neg c37])))
        · skip
          refine ev_ald0 41 dX11_average_40 rfl ?_
          refine ev_getfield 44 13 0 fl_X11_12_13 (tr0 hT) rfl dX11_average_41 rfl ?_
          refine ev_ild5 46 dX11_average_44 rfl ?_
          refine tc_V1 49 2 dX11_average_46 lkv_X11_276 (tr1_0 hT) rfl rfl (by first | decide | omega) (Nat.le_of_ble_eq_true rfl) (g_C hT hW (by omega)) ?_
          refine ev_castS 52 dX11_average_49 cl_X11_79 (tr12 hT (by first | assumption | exact wx_stu hW (by omega) | exact wx_crs hW (by omega) | exact wx_new hW)) rfl rfl ?_
          refine ev_getfield 55 5 1 fl_X11_292_5 (tr12 hT (by first | assumption | exact wx_stu hW (by omega) | exact wx_crs hW (by omega) | exact wx_new hW)) rfl dX11_average_52 rfl ?_
          refine ev_ist7 57 dX11_average_55 rfl (by decide) rfl ?_
          refine ev_ild3 58 dX11_average_57 rfl ?_
          refine ev_ild6 60 dX11_average_58 rfl ?_
          refine ev_ild7 62 dX11_average_60 rfl ?_
          refine tj_imul 63 dX11_average_62 rfl ?_
          refine tj_iadd 64 dX11_average_63 rfl ?_
          refine ev_ist3 65 dX11_average_64 rfl (by decide) rfl ?_
          refine ev_ild4 67 dX11_average_65 rfl ?_
          refine ev_ild7 69 dX11_average_67 rfl ?_
          refine tj_iadd 70 dX11_average_69 rfl ?_
          refine ev_ist4 72 dX11_average_70 rfl (by decide) rfl ?_
          refine tj_inc5 75 dX11_average_72 rfl (by decide) rfl ?_
          refine ev_goto 14 dX11_average_75 (by decide) ?_
          exact ih14 (c + 1) _ _ _ _ _ (by omega) (by first | omega | assumption | omega) (by first | rfl | omega | (first | (rw [avS, if_pos c37]) | (rw [avS, if_neg c37]) | (rw [avW, if_pos c37]) | (rw [avW, if_neg c37]))) (by first | rfl | omega | (first | (rw [avS, if_pos c37]) | (rw [avS, if_neg c37]) | (rw [avW, if_pos c37]) | (rw [avW, if_neg c37]))) (by first | rfl | omega | (first | (rw [avS, if_pos c37]) | (rw [avS, if_neg c37]) | (rw [avW, if_pos c37]) | (rw [avW, if_neg c37])))
  exact lp14 _ (0) _ _ _ _ _ (Nat.lt_succ_self _) (by first | omega | assumption | omega) (by first | rfl | omega | (first | (rw [avS, if_pos c37]) | (rw [avS, if_neg c37]) | (rw [avW, if_pos c37]) | (rw [avW, if_neg c37]))) (by first | rfl | omega | (first | (rw [avS, if_pos c37]) | (rw [avS, if_neg c37]) | (rw [avW, if_pos c37]) | (rw [avW, if_neg c37]))) (by first | rfl | omega | (first | (rw [avS, if_pos c37]) | (rw [avS, if_neg c37]) | (rw [avW, if_pos c37]) | (rw [avW, if_neg c37])))
