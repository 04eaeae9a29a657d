/-! THE CLASS: the calls that ask -/
set_option maxRecDepth 100000 in
set_option maxHeartbeats 4000000 in
theorem c_X11_formulaAt_ok {g : Gt} {α : AL} {ν : Nat → Nat → Bool} {X : XM} {h : AH} (hT : TR g α ν X h) (hW : WX ν X) {j : Nat} (hj : (j : Int) < nF X) : Pr g M_X11_formulaAt 8 [.ref (α 0 0), .int (J (j : Int))] h (some (.ref (α 16 j))) := by
  refine pr_of rfl rfl (ls := [some (.ref (α 0 0)), some (.int (J (j : Int)))]) rfl (Nat.le_of_ble_eq_true rfl) ?_
  show Ev g M_X11_formulaAt 8 0 [some (.ref (α 0 0)), some (.int (J (j : Int)))] [] h 0 0 (PQ (some (.ref (α 16 j))) h)
  have q1 := wo_nC hW.1
  have q3 := wo_nS hW.1
  have qf := wo_nF hW.1
  have qr := wo_nR hW.1
  refine ev_ild1 1 dX11_formulaAt_0 rfl ?_
  refine tj_if_lt 15 4 dX11_formulaAt_1 (by decide) rfl (by first | exact TR.rng hT _ _ _ | exact R31_of _ | exact bi_R _ | (constructor <;> omega)) (fun c1 => ?_) (fun c1 => ?_)
  · exact False.elim (by omega)
  · skip
    refine ev_ild1 5 dX11_formulaAt_4 rfl ?_
    refine ev_ald0 6 dX11_formulaAt_5 rfl ?_
    refine ev_getfield 9 13 2 fl_X11_19_13 (tr0 hT) rfl dX11_formulaAt_6 rfl ?_
    refine tc_V0 12 2 dX11_formulaAt_9 lkv_X11_70 (tr1_2 hT) rfl rfl (by first | decide | omega) (Nat.le_of_ble_eq_true rfl) (z_F hT hW) ?_
    refine tj_icmp_lt 26 15 dX11_formulaAt_12 (by decide) rfl (by first | exact TR.rng hT _ _ _ | exact R31_of _ | exact bi_R _ | (constructor <;> omega)) (by first | exact TR.rng hT _ _ _ | exact R31_of _ | exact bi_R _ | (constructor <;> omega)) (fun c12 => ?_) (fun c12 => ?_)
    · skip
      refine ev_ald0 27 dX11_formulaAt_26 rfl ?_
      refine ev_getfield 30 13 2 fl_X11_19_13 (tr0 hT) rfl dX11_formulaAt_27 rfl ?_
      refine ev_ild1 31 dX11_formulaAt_30 rfl ?_
      refine tc_V1 34 2 dX11_formulaAt_31 lkv_X11_276 (tr1_2 hT) rfl rfl (by first | decide | omega) (Nat.le_of_ble_eq_true rfl) (g_F hT hW (by omega)) ?_
      refine tv_castF 37 dX11_formulaAt_34 cl_X11_149 hT hW (by omega) rfl ?_
      exact ev_areturn ⟨rfl, rfl⟩ rfl dX11_formulaAt_37
    · exact False.elim (by omega)
set_option maxRecDepth 100000 in
set_option maxHeartbeats 4000000 in
theorem c_X11_checkMajor_ok {g : Gt} {h : AH} {a : Int} (ha : R31 a) (hn : 0 ≤ a ∧ a ≤ 3) : Pr g M_X11_checkMajor 8 [.int (J a)] h (none) := by
  refine pr_of rfl rfl (ls := [some (.int (J a))]) rfl (Nat.le_of_ble_eq_true rfl) ?_
  show Ev g M_X11_checkMajor 8 0 [some (.int (J a))] [] h 0 0 (PQ (none) h)
  refine ev_ild0 1 dX11_checkMajor_0 rfl ?_
  refine tj_iconst 2 dX11_checkMajor_1 rfl ?_
  refine tj_iconst 3 dX11_checkMajor_2 rfl ?_
  refine tc_S3 6 dX11_checkMajor_3 lks_X11_59 rfl (by first | decide | omega) (Nat.le_of_ble_eq_true rfl) (c_X11_isWithin (by first | exact TR.rng hT _ _ _ | exact R31_of _ | exact bi_R _ | (constructor <;> omega)) (by first | exact TR.rng hT _ _ _ | exact R31_of _ | exact bi_R _ | (constructor <;> omega)) (by first | exact TR.rng hT _ _ _ | exact R31_of _ | exact bi_R _ | (constructor <;> omega))) ?_
  refine tb_if_ne 20 9 dX11_checkMajor_6 (by decide) rfl (fun c6 => ?_) (fun c6 => ?_)
  · skip
    exact ev_vreturn ⟨rfl, rfl⟩ rfl dX11_checkMajor_20
  · exact False.elim (by have z := of_decide_eq_false c6; omega)
set_option maxRecDepth 100000 in
set_option maxHeartbeats 4000000 in
theorem c_X11_checkMark_ok {g : Gt} {h : AH} {a : Int} (ha : R31 a) (hn : 0 ≤ a ∧ a ≤ 100) : Pr g M_X11_checkMark 8 [.int (J a)] h (none) := by
  refine pr_of rfl rfl (ls := [some (.int (J a))]) rfl (Nat.le_of_ble_eq_true rfl) ?_
  show Ev g M_X11_checkMark 8 0 [some (.int (J a))] [] h 0 0 (PQ (none) h)
  refine ev_ild0 1 dX11_checkMark_0 rfl ?_
  refine tj_iconst 2 dX11_checkMark_1 rfl ?_
  refine tj_bipush 4 dX11_checkMark_2 (by decide) rfl ?_
  refine tc_S3 7 dX11_checkMark_4 lks_X11_59 rfl (by first | decide | omega) (Nat.le_of_ble_eq_true rfl) (c_X11_isWithin (by first | exact TR.rng hT _ _ _ | exact R31_of _ | exact bi_R _ | (constructor <;> omega)) (by first | exact TR.rng hT _ _ _ | exact R31_of _ | exact bi_R _ | (constructor <;> omega)) (by first | exact TR.rng hT _ _ _ | exact R31_of _ | exact bi_R _ | (constructor <;> omega))) ?_
  refine tb_if_ne 21 10 dX11_checkMark_7 (by decide) rfl (fun c7 => ?_) (fun c7 => ?_)
  · skip
    exact ev_vreturn ⟨rfl, rfl⟩ rfl dX11_checkMark_21
  · exact False.elim (by have z := of_decide_eq_false c7; omega)
set_option maxRecDepth 100000 in
set_option maxHeartbeats 4000000 in
theorem c_X11_holds_ok {g : Gt} {α : AL} {ν : Nat → Nat → Bool} {X : XM} {h : AH} (hT : TR g α ν X h) (hW : WX ν X) {s : Nat} (hs0 : (s : Int) < nS X) {f : Nat} (hf : (f : Int) < nF X)  : Pr g M_X11_holds 28 [.ref (α 0 0), .int (J (s : Int)), .int (J (f : Int))] h (some (.int (J (bi (hol X s f))))) := by
  refine pr_of rfl rfl (ls := [some (.ref (α 0 0)), some (.int (J (s : Int))), some (.int (J (f : Int))), none]) rfl (Nat.le_of_ble_eq_true rfl) ?_
  show Ev g M_X11_holds 28 0 [some (.ref (α 0 0)), some (.int (J (s : Int))), some (.int (J (f : Int))), none] [] h 0 0 (PQ (some (.int (J (bi (hol X s f))))) h)
  have q1 := wo_nC hW.1
  have q3 := wo_nS hW.1
  have hs := wx_stu hW hs0
  have hl : s < 17 := by omega
  have w1 := wo_maj hW.1 s hs0
  have qf := wo_nF hW.1
  refine ev_ald0 1 dX11_holds_0 rfl ?_
  refine ev_ild1 2 dX11_holds_1 rfl ?_
  refine tc_V1 5 13 dX11_holds_2 lkv_X11_93 (tr0 hT) rfl rfl (by first | decide | omega) (Nat.le_of_ble_eq_true rfl) (c_X11_studentAt_ok hT hW (by omega)) ?_
  refine ev_ast3 6 dX11_holds_5 rfl (by decide) rfl ?_
  refine ev_ald0 7 dX11_holds_6 rfl ?_
  refine ev_ild2 8 dX11_holds_7 rfl ?_
  refine tc_V1 11 13 dX11_holds_8 lkv_X11_144 (tr0 hT) rfl rfl (by first | decide | omega) (Nat.le_of_ble_eq_true rfl) (c_X11_formulaAt_ok hT hW (by omega)) ?_
  refine ev_pop 12 dX11_holds_11 rfl rfl ?_
  refine ev_ild2 13 dX11_holds_12 rfl ?_
  refine ev_ald0 14 dX11_holds_13 rfl ?_
  refine ev_ald3 15 dX11_holds_14 rfl ?_
  refine tc_V1 18 13 dX11_holds_15 lkv_X11_167 (tr0 hT) rfl rfl (by first | decide | omega) (Nat.le_of_ble_eq_true rfl) (c_X11_truthsFor hT hW (by first | assumption | exact wx_stu hW (by omega)) (by omega)) ?_
  refine tc_S2 21 dX11_holds_18 lks_X11_171 rfl (by first | decide | omega) (Nat.le_of_ble_eq_true rfl) (isMet_S hW.1 (y := (f : Int)) (by omega)) ?_
  exact tz_ret (by first | rfl | omega | exact bi_dt (by omega) | exact bi_df (by omega) | (skip)) rfl dX11_holds_21
set_option maxRecDepth 100000 in
set_option maxHeartbeats 4000000 in
theorem c_X11_day_ok {g : Gt} {α : AL} {ν : Nat → Nat → Bool} {X : XM} {h : AH} (hT : TR g α ν X h) (hW : WX ν X)  : Pr g M_X11_day 28 [.ref (α 0 0)] h (some (.int (J (X 0 0 5)))) := by
  refine pr_of rfl rfl (ls := [some (.ref (α 0 0))]) rfl (Nat.le_of_ble_eq_true rfl) ?_
  show Ev g M_X11_day 28 0 [some (.ref (α 0 0))] [] h 0 0 (PQ (some (.int (J (X 0 0 5)))) h)
  have q1 := wo_nC hW.1
  have q3 := wo_nS hW.1
  refine ev_ald0 1 dX11_day_0 rfl ?_
  refine ev_getfield 4 13 5 fl_X11_180_13 (tr0 hT) rfl dX11_day_1 rfl ?_
  exact ev_ireturn (pq_i (by first | rfl | omega | exact bi_dt (by omega) | exact bi_df (by omega) | (skip))) rfl dX11_day_4
set_option maxRecDepth 100000 in
set_option maxHeartbeats 4000000 in
theorem c_X11_outcome_ok {g : Gt} {α : AL} {ν : Nat → Nat → Bool} {X : XM} {h : AH} (hT : TR g α ν X h) (hW : WX ν X) {s : Nat} (hs0 : (s : Int) < nS X) {c : Nat} (hc : (c : Int) < nC X)  : Pr g M_X11_outcome 28 [.ref (α 0 0), .int (J (s : Int)), .int (J (c : Int))] h (some (.int (J (ltr X s c)))) := by
  refine pr_of rfl rfl (ls := [some (.ref (α 0 0)), some (.int (J (s : Int))), some (.int (J (c : Int))), none]) rfl (Nat.le_of_ble_eq_true rfl) ?_
  show Ev g M_X11_outcome 28 0 [some (.ref (α 0 0)), some (.int (J (s : Int))), some (.int (J (c : Int))), none] [] h 0 0 (PQ (some (.int (J (ltr X s c)))) h)
  have q1 := wo_nC hW.1
  have q3 := wo_nS hW.1
  have hs := wx_stu hW hs0
  have hl : s < 17 := by omega
  have w1 := wo_maj hW.1 s hs0
  refine ev_ald0 1 dX11_outcome_0 rfl ?_
  refine ev_ild1 2 dX11_outcome_1 rfl ?_
  refine tc_V1 5 13 dX11_outcome_2 lkv_X11_93 (tr0 hT) rfl rfl (by first | decide | omega) (Nat.le_of_ble_eq_true rfl) (c_X11_studentAt_ok hT hW (by omega)) ?_
  refine ev_ast3 6 dX11_outcome_5 rfl (by decide) rfl ?_
  refine ev_ald0 7 dX11_outcome_6 rfl ?_
  refine ev_ald3 8 dX11_outcome_7 rfl ?_
  refine ev_ald0 9 dX11_outcome_8 rfl ?_
  refine ev_ild2 10 dX11_outcome_9 rfl ?_
  refine tc_V1 13 13 dX11_outcome_10 lkv_X11_104 (tr0 hT) rfl rfl (by first | decide | omega) (Nat.le_of_ble_eq_true rfl) (c_X11_courseAt_ok hT hW (by omega)) ?_
  refine tc_V2 16 13 dX11_outcome_13 lkv_X11_191 (tr0 hT) rfl rfl (by first | decide | omega) (Nat.le_of_ble_eq_true rfl) (c_X11_letterFor hT hW (by omega) (by omega)) ?_
  exact tz_retc (by first | rfl | omega | exact bi_dt (by omega) | exact bi_df (by omega) | (skip)) (ltr_c X s c) rfl dX11_outcome_16
set_option maxRecDepth 100000 in
set_option maxHeartbeats 4000000 in
theorem c_X11_bestMark_ok {g : Gt} {α : AL} {ν : Nat → Nat → Bool} {X : XM} {h : AH} (hT : TR g α ν X h) (hW : WX ν X) {s : Nat} (hs0 : (s : Int) < nS X) {c : Nat} (hc : (c : Int) < nC X) (hb : X 8 s c ≠ -1) : Pr g M_X11_bestMark 28 [.ref (α 0 0), .int (J (s : Int)), .int (J (c : Int))] h (some (.int (J (X 8 s c)))) := by
  refine pr_of rfl rfl (ls := [some (.ref (α 0 0)), some (.int (J (s : Int))), some (.int (J (c : Int))), none]) rfl (Nat.le_of_ble_eq_true rfl) ?_
  show Ev g M_X11_bestMark 28 0 [some (.ref (α 0 0)), some (.int (J (s : Int))), some (.int (J (c : Int))), none] [] h 0 0 (PQ (some (.int (J (X 8 s c)))) h)
  have q1 := wo_nC hW.1
  have q3 := wo_nS hW.1
  have hs := wx_stu hW hs0
  have hl : s < 17 := by omega
  have w1 := wo_maj hW.1 s hs0
  have wb := wo_bst hW.1 s c hs0 (by omega)
  refine ev_ald0 1 dX11_bestMark_0 rfl ?_
  refine ev_ild1 2 dX11_bestMark_1 rfl ?_
  refine tc_V1 5 13 dX11_bestMark_2 lkv_X11_93 (tr0 hT) rfl rfl (by first | decide | omega) (Nat.le_of_ble_eq_true rfl) (c_X11_studentAt_ok hT hW (by omega)) ?_
  refine ev_ast3 6 dX11_bestMark_5 rfl (by decide) rfl ?_
  refine ev_ald0 7 dX11_bestMark_6 rfl ?_
  refine ev_ild2 8 dX11_bestMark_7 rfl ?_
  refine tc_V1 11 13 dX11_bestMark_8 lkv_X11_104 (tr0 hT) rfl rfl (by first | decide | omega) (Nat.le_of_ble_eq_true rfl) (c_X11_courseAt_ok hT hW (by omega)) ?_
  refine ev_pop 12 dX11_bestMark_11 rfl rfl ?_
  refine ev_ald3 13 dX11_bestMark_12 rfl ?_
  refine ev_getfield 16 10 4 fl_X11_300_10 (tr4 hT (by first | assumption | exact wx_stu hW (by omega) | exact wx_crs hW (by omega) | exact wx_new hW) (by omega)) rfl dX11_bestMark_13 rfl ?_
  refine ev_ild2 17 dX11_bestMark_16 rfl ?_
  refine tv_iald 18 (tr8 hT (by first | assumption | exact wx_stu hW (by omega) | exact wx_crs hW (by omega) | exact wx_new hW) (by omega)) (c) (by omega) (by omega) (by omega) dX11_bestMark_17 rfl ?_
  refine tj_iconst 19 dX11_bestMark_18 rfl ?_
  refine tj_icmp_ne 33 22 dX11_bestMark_19 (by decide) rfl (by first | exact TR.rng hT _ _ _ | exact R31_of _ | exact bi_R _ | (constructor <;> omega)) (by first | exact TR.rng hT _ _ _ | exact R31_of _ | exact bi_R _ | (constructor <;> omega)) (fun c19 => ?_) (fun c19 => ?_)
  · skip
    refine ev_ald3 34 dX11_bestMark_33 rfl ?_
    refine ev_getfield 37 10 4 fl_X11_300_10 (tr4 hT (by first | assumption | exact wx_stu hW (by omega) | exact wx_crs hW (by omega) | exact wx_new hW) (by omega)) rfl dX11_bestMark_34 rfl ?_
    refine ev_ild2 38 dX11_bestMark_37 rfl ?_
    refine tv_iald 39 (tr8 hT (by first | assumption | exact wx_stu hW (by omega) | exact wx_crs hW (by omega) | exact wx_new hW) (by omega)) (c) (by omega) (by omega) (by omega) dX11_bestMark_38 rfl ?_
    exact ev_ireturn (pq_i (by first | rfl | omega | exact bi_dt (by omega) | exact bi_df (by omega) | (skip))) rfl dX11_bestMark_39
  · exact False.elim (by omega)
set_option maxRecDepth 100000 in
set_option maxHeartbeats 4000000 in
theorem c_X11_bestMark_x2 {g : Gt} {α : AL} {ν : Nat → Nat → Bool} {X : XM} {h : AH} (hT : TR g α ν X h) (hW : WX ν X) {s : Nat} (hs0 : (s : Int) < nS X) {c : Nat} (hc : (c : Int) < nC X) (hb : X 8 s c = -1) : Th g M_X11_bestMark 28 [.ref (α 0 0), .int (J (s : Int)), .int (J (c : Int))] h "java/util/NoSuchElementException" := by
  refine th_of rfl rfl (ls := [some (.ref (α 0 0)), some (.int (J (s : Int))), some (.int (J (c : Int))), none]) rfl (Nat.le_of_ble_eq_true rfl) ?_
  show Ev g M_X11_bestMark 28 0 [some (.ref (α 0 0)), some (.int (J (s : Int))), some (.int (J (c : Int))), none] [] h 1 6 (TQ "java/util/NoSuchElementException" h)
  have q1 := wo_nC hW.1
  have q3 := wo_nS hW.1
  have hs := wx_stu hW hs0
  have hl : s < 17 := by omega
  have w1 := wo_maj hW.1 s hs0
  have wb := wo_bst hW.1 s c hs0 (by omega)
  refine ev_ald0 1 dX11_bestMark_0 rfl ?_
  refine ev_ild1 2 dX11_bestMark_1 rfl ?_
  refine tc_V1 5 13 dX11_bestMark_2 lkv_X11_93 (tr0 hT) rfl rfl (by first | decide | omega) (Nat.le_of_ble_eq_true rfl) (c_X11_studentAt_ok hT hW (by omega)) ?_
  refine ev_ast3 6 dX11_bestMark_5 rfl (by decide) rfl ?_
  refine ev_ald0 7 dX11_bestMark_6 rfl ?_
  refine ev_ild2 8 dX11_bestMark_7 rfl ?_
  refine tc_V1 11 13 dX11_bestMark_8 lkv_X11_104 (tr0 hT) rfl rfl (by first | decide | omega) (Nat.le_of_ble_eq_true rfl) (c_X11_courseAt_ok hT hW (by omega)) ?_
  refine ev_pop 12 dX11_bestMark_11 rfl rfl ?_
  refine ev_ald3 13 dX11_bestMark_12 rfl ?_
  refine ev_getfield 16 10 4 fl_X11_300_10 (tr4 hT (by first | assumption | exact wx_stu hW (by omega) | exact wx_crs hW (by omega) | exact wx_new hW) (by omega)) rfl dX11_bestMark_13 rfl ?_
  refine ev_ild2 17 dX11_bestMark_16 rfl ?_
  refine tv_iald 18 (tr8 hT (by first | assumption | exact wx_stu hW (by omega) | exact wx_crs hW (by omega) | exact wx_new hW) (by omega)) (c) (by omega) (by omega) (by omega) dX11_bestMark_17 rfl ?_
  refine tj_iconst 19 dX11_bestMark_18 rfl ?_
  refine tj_icmp_ne 33 22 dX11_bestMark_19 (by decide) rfl (by first | exact TR.rng hT _ _ _ | exact R31_of _ | exact bi_R _ | (constructor <;> omega)) (by first | exact TR.rng hT _ _ _ | exact R31_of _ | exact bi_R _ | (constructor <;> omega)) (fun c19 => ?_) (fun c19 => ?_)
  · exact False.elim (by omega)
  · skip
    exact ev_throwNW tn_X11_209_303_213 rfl ⟨rfl, rfl⟩ (by decide) (Nat.le_of_ble_eq_true rfl) dX11_bestMark_22 dX11_bestMark_25 dX11_bestMark_26 dX11_bestMark_29 dX11_bestMark_32 (by decide) (by decide)
set_option maxRecDepth 100000 in
set_option maxHeartbeats 4000000 in
theorem c_X11_attempts_ok {g : Gt} {α : AL} {ν : Nat → Nat → Bool} {X : XM} {h : AH} (hT : TR g α ν X h) (hW : WX ν X) {s : Nat} (hs0 : (s : Int) < nS X) {c : Nat} (hc : (c : Int) < nC X)  : Pr g M_X11_attempts 28 [.ref (α 0 0), .int (J (s : Int)), .int (J (c : Int))] h (some (.int (J (X 9 s c)))) := by
  refine pr_of rfl rfl (ls := [some (.ref (α 0 0)), some (.int (J (s : Int))), some (.int (J (c : Int))), none]) rfl (Nat.le_of_ble_eq_true rfl) ?_
  show Ev g M_X11_attempts 28 0 [some (.ref (α 0 0)), some (.int (J (s : Int))), some (.int (J (c : Int))), none] [] h 0 0 (PQ (some (.int (J (X 9 s c)))) h)
  have q1 := wo_nC hW.1
  have q3 := wo_nS hW.1
  have hs := wx_stu hW hs0
  have hl : s < 17 := by omega
  have w1 := wo_maj hW.1 s hs0
  refine ev_ald0 1 dX11_attempts_0 rfl ?_
  refine ev_ild1 2 dX11_attempts_1 rfl ?_
  refine tc_V1 5 13 dX11_attempts_2 lkv_X11_93 (tr0 hT) rfl rfl (by first | decide | omega) (Nat.le_of_ble_eq_true rfl) (c_X11_studentAt_ok hT hW (by omega)) ?_
  refine ev_ast3 6 dX11_attempts_5 rfl (by decide) rfl ?_
  refine ev_ald0 7 dX11_attempts_6 rfl ?_
  refine ev_ild2 8 dX11_attempts_7 rfl ?_
  refine tc_V1 11 13 dX11_attempts_8 lkv_X11_104 (tr0 hT) rfl rfl (by first | decide | omega) (Nat.le_of_ble_eq_true rfl) (c_X11_courseAt_ok hT hW (by omega)) ?_
  refine ev_pop 12 dX11_attempts_11 rfl rfl ?_
  refine ev_ald3 13 dX11_attempts_12 rfl ?_
  refine ev_getfield 16 10 5 fl_X11_254_10 (tr4 hT (by first | assumption | exact wx_stu hW (by omega) | exact wx_crs hW (by omega) | exact wx_new hW) (by omega)) rfl dX11_attempts_13 rfl ?_
  refine ev_ild2 17 dX11_attempts_16 rfl ?_
  refine tv_iald 18 (tr9 hT (by first | assumption | exact wx_stu hW (by omega) | exact wx_crs hW (by omega) | exact wx_new hW) (by omega)) (c) (by omega) (by omega) (by omega) dX11_attempts_17 rfl ?_
  exact ev_ireturn (pq_i (by first | rfl | omega | exact bi_dt (by omega) | exact bi_df (by omega) | (skip))) rfl dX11_attempts_18
set_option maxRecDepth 100000 in
set_option maxHeartbeats 4000000 in
theorem c_X11_earnedCredits_ok {g : Gt} {α : AL} {ν : Nat → Nat → Bool} {X : XM} {h : AH} (hT : TR g α ν X h) (hW : WX ν X) {s : Nat} (hs0 : (s : Int) < nS X)  : Pr g M_X11_earnedCredits 28 [.ref (α 0 0), .int (J (s : Int))] h (some (.int (J (ernd X s)))) := by
  refine pr_of rfl rfl (ls := [some (.ref (α 0 0)), some (.int (J (s : Int)))]) rfl (Nat.le_of_ble_eq_true rfl) ?_
  show Ev g M_X11_earnedCredits 28 0 [some (.ref (α 0 0)), some (.int (J (s : Int)))] [] h 0 0 (PQ (some (.int (J (ernd X s)))) h)
  have q1 := wo_nC hW.1
  have q3 := wo_nS hW.1
  have hs := wx_stu hW hs0
  have hl : s < 17 := by omega
  have w1 := wo_maj hW.1 s hs0
  refine ev_ald0 1 dX11_earnedCredits_0 rfl ?_
  refine ev_ald0 2 dX11_earnedCredits_1 rfl ?_
  refine ev_ild1 3 dX11_earnedCredits_2 rfl ?_
  refine tc_V1 6 13 dX11_earnedCredits_3 lkv_X11_93 (tr0 hT) rfl rfl (by first | decide | omega) (Nat.le_of_ble_eq_true rfl) (c_X11_studentAt_ok hT hW (by omega)) ?_
  refine tc_V1 9 13 dX11_earnedCredits_6 lkv_X11_305 (tr0 hT) rfl rfl (by first | decide | omega) (Nat.le_of_ble_eq_true rfl) (c_X11_creditsEarned hT hW (by first | assumption | exact wx_stu hW (by omega) | exact wx_new hW) (by omega)) ?_
  exact ev_ireturn (pq_i (by first | rfl | omega | exact bi_dt (by omega) | exact bi_df (by omega) | (skip))) rfl dX11_earnedCredits_9
set_option maxRecDepth 100000 in
set_option maxHeartbeats 4000000 in
theorem c_X11_load_ok {g : Gt} {α : AL} {ν : Nat → Nat → Bool} {X : XM} {h : AH} (hT : TR g α ν X h) (hW : WX ν X) {s : Nat} (hs0 : (s : Int) < nS X)  : Pr g M_X11_load 28 [.ref (α 0 0), .int (J (s : Int))] h (some (.int (J (load X s)))) := by
  refine pr_of rfl rfl (ls := [some (.ref (α 0 0)), some (.int (J (s : Int)))]) rfl (Nat.le_of_ble_eq_true rfl) ?_
  show Ev g M_X11_load 28 0 [some (.ref (α 0 0)), some (.int (J (s : Int)))] [] h 0 0 (PQ (some (.int (J (load X s)))) h)
  have q1 := wo_nC hW.1
  have q3 := wo_nS hW.1
  have hs := wx_stu hW hs0
  have hl : s < 17 := by omega
  have w1 := wo_maj hW.1 s hs0
  refine ev_ald0 1 dX11_load_0 rfl ?_
  refine ev_ald0 2 dX11_load_1 rfl ?_
  refine ev_ild1 3 dX11_load_2 rfl ?_
  refine tc_V1 6 13 dX11_load_3 lkv_X11_93 (tr0 hT) rfl rfl (by first | decide | omega) (Nat.le_of_ble_eq_true rfl) (c_X11_studentAt_ok hT hW (by omega)) ?_
  refine tc_V1 9 13 dX11_load_6 lkv_X11_266 (tr0 hT) rfl rfl (by first | decide | omega) (Nat.le_of_ble_eq_true rfl) (c_X11_loadOn hT hW (by first | assumption | exact wx_stu hW (by omega) | exact wx_new hW) (by omega)) ?_
  exact ev_ireturn (pq_i (by first | rfl | omega | exact bi_dt (by omega) | exact bi_df (by omega) | (skip))) rfl dX11_load_9
set_option maxRecDepth 100000 in
set_option maxHeartbeats 4000000 in
theorem c_X11_isEnrolled_ok {g : Gt} {α : AL} {ν : Nat → Nat → Bool} {X : XM} {h : AH} (hT : TR g α ν X h) (hW : WX ν X) {s : Nat} (hs0 : (s : Int) < nS X) {c : Nat} (hc : (c : Int) < nC X)  : Pr g M_X11_isEnrolled 28 [.ref (α 0 0), .int (J (s : Int)), .int (J (c : Int))] h (some (.int (J (bi (tak X s c))))) := by
  refine pr_of rfl rfl (ls := [some (.ref (α 0 0)), some (.int (J (s : Int))), some (.int (J (c : Int))), none]) rfl (Nat.le_of_ble_eq_true rfl) ?_
  show Ev g M_X11_isEnrolled 28 0 [some (.ref (α 0 0)), some (.int (J (s : Int))), some (.int (J (c : Int))), none] [] h 0 0 (PQ (some (.int (J (bi (tak X s c))))) h)
  have q1 := wo_nC hW.1
  have q3 := wo_nS hW.1
  have hs := wx_stu hW hs0
  have hl : s < 17 := by omega
  have w1 := wo_maj hW.1 s hs0
  have wt := wo_t01 hW.1 s c (by omega)
  refine ev_ald0 1 dX11_isEnrolled_0 rfl ?_
  refine ev_ild1 2 dX11_isEnrolled_1 rfl ?_
  refine tc_V1 5 13 dX11_isEnrolled_2 lkv_X11_93 (tr0 hT) rfl rfl (by first | decide | omega) (Nat.le_of_ble_eq_true rfl) (c_X11_studentAt_ok hT hW (by omega)) ?_
  refine ev_ast3 6 dX11_isEnrolled_5 rfl (by decide) rfl ?_
  refine ev_ald0 7 dX11_isEnrolled_6 rfl ?_
  refine ev_ild2 8 dX11_isEnrolled_7 rfl ?_
  refine tc_V1 11 13 dX11_isEnrolled_8 lkv_X11_104 (tr0 hT) rfl rfl (by first | decide | omega) (Nat.le_of_ble_eq_true rfl) (c_X11_courseAt_ok hT hW (by omega)) ?_
  refine ev_pop 12 dX11_isEnrolled_11 rfl rfl ?_
  refine ev_ald3 13 dX11_isEnrolled_12 rfl ?_
  refine ev_getfield 16 10 1 fl_X11_214_10 (tr4 hT (by first | assumption | exact wx_stu hW (by omega) | exact wx_crs hW (by omega) | exact wx_new hW) (by omega)) rfl dX11_isEnrolled_13 rfl ?_
  refine ev_ild2 17 dX11_isEnrolled_16 rfl ?_
  refine tv_zald 18 (tr5 hT (by first | assumption | exact wx_stu hW (by omega) | exact wx_crs hW (by omega) | exact wx_new hW) (by omega)) (c) (by omega) (by omega) (by omega) dX11_isEnrolled_17 rfl ?_
  exact tz_ret (by first | rfl | omega | exact bi_dt (by omega) | exact bi_df (by omega) | (unfold tak; rcases wt with e | e <;> rw [e] <;> rfl)) rfl dX11_isEnrolled_18
set_option maxRecDepth 100000 in
set_option maxHeartbeats 4000000 in
theorem c_X11_enrolled_ok {g : Gt} {α : AL} {ν : Nat → Nat → Bool} {X : XM} {h : AH} (hT : TR g α ν X h) (hW : WX ν X) {c : Nat} (hc : (c : Int) < nC X)  : Pr g M_X11_enrolled 28 [.ref (α 0 0), .int (J (c : Int))] h (some (.int (J (enr X c)))) := by
  refine pr_of rfl rfl (ls := [some (.ref (α 0 0)), some (.int (J (c : Int)))]) rfl (Nat.le_of_ble_eq_true rfl) ?_
  show Ev g M_X11_enrolled 28 0 [some (.ref (α 0 0)), some (.int (J (c : Int)))] [] h 0 0 (PQ (some (.int (J (enr X c)))) h)
  have q1 := wo_nC hW.1
  have q3 := wo_nS hW.1
  refine ev_ald0 1 dX11_enrolled_0 rfl ?_
  refine ev_ald0 2 dX11_enrolled_1 rfl ?_
  refine ev_ild1 3 dX11_enrolled_2 rfl ?_
  refine tc_V1 6 13 dX11_enrolled_3 lkv_X11_104 (tr0 hT) rfl rfl (by first | decide | omega) (Nat.le_of_ble_eq_true rfl) (c_X11_courseAt_ok hT hW (by omega)) ?_
  refine tc_V1 9 13 dX11_enrolled_6 lkv_X11_314 (tr0 hT) rfl rfl (by first | decide | omega) (Nat.le_of_ble_eq_true rfl) (c_X11_takersOf hT hW (by omega)) ?_
  exact ev_ireturn (pq_i (by first | rfl | omega | exact bi_dt (by omega) | exact bi_df (by omega) | (skip))) rfl dX11_enrolled_9
set_option maxRecDepth 100000 in
set_option maxHeartbeats 4000000 in
theorem c_X11_waiting_ok {g : Gt} {α : AL} {ν : Nat → Nat → Bool} {X : XM} {h : AH} (hT : TR g α ν X h) (hW : WX ν X) {c : Nat} (hc : (c : Int) < nC X)  : Pr g M_X11_waiting 28 [.ref (α 0 0), .int (J (c : Int))] h (some (.int (J (X 1 (4 + c) 2)))) := by
  refine pr_of rfl rfl (ls := [some (.ref (α 0 0)), some (.int (J (c : Int)))]) rfl (Nat.le_of_ble_eq_true rfl) ?_
  show Ev g M_X11_waiting 28 0 [some (.ref (α 0 0)), some (.int (J (c : Int)))] [] h 0 0 (PQ (some (.int (J (X 1 (4 + c) 2)))) h)
  have q1 := wo_nC hW.1
  have q3 := wo_nS hW.1
  refine ev_ald0 1 dX11_waiting_0 rfl ?_
  refine ev_ild1 2 dX11_waiting_1 rfl ?_
  refine tc_V1 5 13 dX11_waiting_2 lkv_X11_104 (tr0 hT) rfl rfl (by first | decide | omega) (Nat.le_of_ble_eq_true rfl) (c_X11_courseAt_ok hT hW (by omega)) ?_
  refine ev_getfield 8 5 4 fl_X11_217_5 (tr12 hT (by first | assumption | exact wx_stu hW (by omega) | exact wx_crs hW (by omega) | exact wx_new hW)) rfl dX11_waiting_5 rfl ?_
  refine tc_V0 11 2 dX11_waiting_8 lkv_X11_70 (tr1_W hT (by first | assumption | exact wx_stu hW (by omega) | exact wx_crs hW (by omega) | exact wx_new hW)) rfl rfl (by first | decide | omega) (Nat.le_of_ble_eq_true rfl) (z_W hT hW (by omega)) ?_
  exact ev_ireturn (pq_i (by first | rfl | omega | exact bi_dt (by omega) | exact bi_df (by omega) | (skip))) rfl dX11_waiting_11
set_option maxRecDepth 100000 in
set_option maxHeartbeats 4000000 in
theorem c_X11_placeOf_ok {g : Gt} {α : AL} {ν : Nat → Nat → Bool} {X : XM} {h : AH} (hT : TR g α ν X h) (hW : WX ν X) {s : Nat} (hs0 : (s : Int) < nS X) {c : Nat} (hc : (c : Int) < nC X) (hb : place X c s ≠ -1) : Pr g M_X11_placeOf 28 [.ref (α 0 0), .int (J (s : Int)), .int (J (c : Int))] h (some (.int (J (place X c s)))) := by
  refine pr_of rfl rfl (ls := [some (.ref (α 0 0)), some (.int (J (s : Int))), some (.int (J (c : Int))), none, none]) rfl (Nat.le_of_ble_eq_true rfl) ?_
  show Ev g M_X11_placeOf 28 0 [some (.ref (α 0 0)), some (.int (J (s : Int))), some (.int (J (c : Int))), none, none] [] h 0 0 (PQ (some (.int (J (place X c s)))) h)
  have q1 := wo_nC hW.1
  have q3 := wo_nS hW.1
  have hs := wx_stu hW hs0
  have hl : s < 17 := by omega
  have w1 := wo_maj hW.1 s hs0
  have wp := place_R hW.1 hc s
  refine ev_ald0 1 dX11_placeOf_0 rfl ?_
  refine ev_ild1 2 dX11_placeOf_1 rfl ?_
  refine tc_V1 5 13 dX11_placeOf_2 lkv_X11_93 (tr0 hT) rfl rfl (by first | decide | omega) (Nat.le_of_ble_eq_true rfl) (c_X11_studentAt_ok hT hW (by omega)) ?_
  refine ev_ast3 6 dX11_placeOf_5 rfl (by decide) rfl ?_
  refine ev_ald0 7 dX11_placeOf_6 rfl ?_
  refine ev_ild2 8 dX11_placeOf_7 rfl ?_
  refine tc_V1 11 13 dX11_placeOf_8 lkv_X11_104 (tr0 hT) rfl rfl (by first | decide | omega) (Nat.le_of_ble_eq_true rfl) (c_X11_courseAt_ok hT hW (by omega)) ?_
  refine ev_ald3 12 dX11_placeOf_11 rfl ?_
  refine tc_V1 15 5 dX11_placeOf_12 lkv_X11_220 (tr12 hT (by first | assumption | exact wx_stu hW (by omega) | exact wx_crs hW (by omega) | exact wx_new hW)) rfl rfl (by first | decide | omega) (Nat.le_of_ble_eq_true rfl) (c_X2_placeFor hT hW (by omega) (by first | assumption | exact wx_stu hW (by omega)) (by omega)) ?_
  refine ev_ist4 17 dX11_placeOf_15 rfl (by decide) rfl ?_
  refine ev_ild4 19 dX11_placeOf_17 rfl ?_
  refine tj_iconst 20 dX11_placeOf_19 rfl ?_
  refine tj_icmp_ne 34 23 dX11_placeOf_20 (by decide) rfl (by first | exact TR.rng hT _ _ _ | exact R31_of _ | exact bi_R _ | (constructor <;> omega)) (by first | exact TR.rng hT _ _ _ | exact R31_of _ | exact bi_R _ | (constructor <;> omega)) (fun c20 => ?_) (fun c20 => ?_)
  · skip
    refine ev_ild4 36 dX11_placeOf_34 rfl ?_
    exact ev_ireturn (pq_i (by first | rfl | omega | exact bi_dt (by omega) | exact bi_df (by omega) | (skip))) rfl dX11_placeOf_36
  · exact False.elim (by omega)
set_option maxRecDepth 100000 in
set_option maxHeartbeats 4000000 in
theorem c_X11_placeOf_x2 {g : Gt} {α : AL} {ν : Nat → Nat → Bool} {X : XM} {h : AH} (hT : TR g α ν X h) (hW : WX ν X) {s : Nat} (hs0 : (s : Int) < nS X) {c : Nat} (hc : (c : Int) < nC X) (hb : place X c s = -1) : Th g M_X11_placeOf 28 [.ref (α 0 0), .int (J (s : Int)), .int (J (c : Int))] h "java/util/NoSuchElementException" := by
  refine th_of rfl rfl (ls := [some (.ref (α 0 0)), some (.int (J (s : Int))), some (.int (J (c : Int))), none, none]) rfl (Nat.le_of_ble_eq_true rfl) ?_
  show Ev g M_X11_placeOf 28 0 [some (.ref (α 0 0)), some (.int (J (s : Int))), some (.int (J (c : Int))), none, none] [] h 1 6 (TQ "java/util/NoSuchElementException" h)
  have q1 := wo_nC hW.1
  have q3 := wo_nS hW.1
  have hs := wx_stu hW hs0
  have hl : s < 17 := by omega
  have w1 := wo_maj hW.1 s hs0
  have wp := place_R hW.1 hc s
  refine ev_ald0 1 dX11_placeOf_0 rfl ?_
  refine ev_ild1 2 dX11_placeOf_1 rfl ?_
  refine tc_V1 5 13 dX11_placeOf_2 lkv_X11_93 (tr0 hT) rfl rfl (by first | decide | omega) (Nat.le_of_ble_eq_true rfl) (c_X11_studentAt_ok hT hW (by omega)) ?_
  refine ev_ast3 6 dX11_placeOf_5 rfl (by decide) rfl ?_
  refine ev_ald0 7 dX11_placeOf_6 rfl ?_
  refine ev_ild2 8 dX11_placeOf_7 rfl ?_
  refine tc_V1 11 13 dX11_placeOf_8 lkv_X11_104 (tr0 hT) rfl rfl (by first | decide | omega) (Nat.le_of_ble_eq_true rfl) (c_X11_courseAt_ok hT hW (by omega)) ?_
  refine ev_ald3 12 dX11_placeOf_11 rfl ?_
  refine tc_V1 15 5 dX11_placeOf_12 lkv_X11_220 (tr12 hT (by first | assumption | exact wx_stu hW (by omega) | exact wx_crs hW (by omega) | exact wx_new hW)) rfl rfl (by first | decide | omega) (Nat.le_of_ble_eq_true rfl) (c_X2_placeFor hT hW (by omega) (by first | assumption | exact wx_stu hW (by omega)) (by omega)) ?_
  refine ev_ist4 17 dX11_placeOf_15 rfl (by decide) rfl ?_
  refine ev_ild4 19 dX11_placeOf_17 rfl ?_
  refine tj_iconst 20 dX11_placeOf_19 rfl ?_
  refine tj_icmp_ne 34 23 dX11_placeOf_20 (by decide) rfl (by first | exact TR.rng hT _ _ _ | exact R31_of _ | exact bi_R _ | (constructor <;> omega)) (by first | exact TR.rng hT _ _ _ | exact R31_of _ | exact bi_R _ | (constructor <;> omega)) (fun c20 => ?_) (fun c20 => ?_)
  · exact False.elim (by omega)
  · skip
    exact ev_throwNW tn_X11_209_318_213 rfl ⟨rfl, rfl⟩ (by decide) (Nat.le_of_ble_eq_true rfl) dX11_placeOf_23 dX11_placeOf_26 dX11_placeOf_27 dX11_placeOf_30 dX11_placeOf_33 (by decide) (by decide)
set_option maxRecDepth 100000 in
set_option maxHeartbeats 4000000 in
theorem c_X11_freeSeats_ok {g : Gt} {α : AL} {ν : Nat → Nat → Bool} {X : XM} {h : AH} (hT : TR g α ν X h) (hW : WX ν X) {c : Nat} (hc : (c : Int) < nC X) {a1 : Int} (ha1 : R31 a1) (hm : 0 ≤ a1 ∧ a1 ≤ 3) : Pr g M_X11_freeSeats 28 [.ref (α 0 0), .int (J (c : Int)), .int (J a1)] h (some (.int (J (free X c a1)))) := by
  refine pr_of rfl rfl (ls := [some (.ref (α 0 0)), some (.int (J (c : Int))), some (.int (J a1)), none]) rfl (Nat.le_of_ble_eq_true rfl) ?_
  show Ev g M_X11_freeSeats 28 0 [some (.ref (α 0 0)), some (.int (J (c : Int))), some (.int (J a1)), none] [] h 0 0 (PQ (some (.int (J (free X c a1)))) h)
  have q1 := wo_nC hW.1
  have q3 := wo_nS hW.1
  refine ev_ald0 1 dX11_freeSeats_0 rfl ?_
  refine ev_ild1 2 dX11_freeSeats_1 rfl ?_
  refine tc_V1 5 13 dX11_freeSeats_2 lkv_X11_104 (tr0 hT) rfl rfl (by first | decide | omega) (Nat.le_of_ble_eq_true rfl) (c_X11_courseAt_ok hT hW (by omega)) ?_
  refine ev_ast3 6 dX11_freeSeats_5 rfl (by decide) rfl ?_
  refine ev_ild2 7 dX11_freeSeats_6 rfl ?_
  refine tcv_S1 10 dX11_freeSeats_7 lks_X11_88 rfl (by first | decide | omega) (Nat.le_of_ble_eq_true rfl) (c_X11_checkMajor_ok (by first | exact TR.rng hT _ _ _ | exact R31_of _ | exact bi_R _ | (constructor <;> omega)) (by omega)) ?_
  refine ev_ald0 11 dX11_freeSeats_10 rfl ?_
  refine ev_ald3 12 dX11_freeSeats_11 rfl ?_
  refine ev_ild2 13 dX11_freeSeats_12 rfl ?_
  refine tc_V2 16 13 dX11_freeSeats_13 lkv_X11_257 (tr0 hT) rfl rfl (by first | decide | omega) (Nat.le_of_ble_eq_true rfl) (c_X11_freeFor hT hW (by omega) (by first | exact TR.rng hT _ _ _ | exact R31_of _ | exact bi_R _ | (constructor <;> omega))) ?_
  exact ev_ireturn (pq_i (by first | rfl | omega | exact bi_dt (by omega) | exact bi_df (by omega) | (skip))) rfl dX11_freeSeats_16
