/-! THE CLASS: credit moved in -/
set_option maxRecDepth 100000 in
set_option maxHeartbeats 4000000 in
theorem c_X8_moveCreditIn {g : Gt} {α : AL} {ν : Nat → Nat → Bool} {X : XM} {h : AH} (hT : TR g α ν X h) (hW : WX ν X) {s : Nat} (hs0 : (s : Int) < nS X) {c : Nat} (hc : (c : Int) < nC X) (hb : X 8 s c < 50) : Mu g α ν M_X8_moveCreditIn 1 [.ref (α 4 s), .int (J (c : Int))] h (none) (fun X' => X' = mv X s c) := by
  refine mu_of rfl rfl (ls := [some (.ref (α 4 s)), some (.int (J (c : Int)))]) rfl (Nat.le_of_ble_eq_true rfl) ?_
  show Ev g M_X8_moveCreditIn 1 0 [some (.ref (α 4 s)), some (.int (J (c : Int)))] [] h 0 0 (UQ g α ν (none) (fun X' => X' = mv X s c))
  have q1 := wo_nC hW.1
  have q3 := wo_nS hW.1
  have hs := wx_stu hW hs0
  have hl : s < 17 := by omega
  have r8 := wo_bst hW.1 s c hs0 (by omega)
  refine ev_ald0 1 dX8_moveCreditIn_0 rfl ?_
  refine ev_getfield 4 10 2 fl_X8_15_10 (tr4 hT (by first | assumption | exact wx_stu hW (by omega) | exact wx_crs hW (by omega) | exact wx_new hW) (by omega)) rfl dX8_moveCreditIn_1 rfl ?_
  refine ev_ild1 5 dX8_moveCreditIn_4 rfl ?_
  refine tj_iconst 6 dX8_moveCreditIn_5 rfl ?_
  refine tv_zast 7 hT (tv6 hT (by first | assumption | exact wx_stu hW (by omega) | exact wx_crs hW (by omega) | exact wx_new hW) (by omega)) (fun _ => rfl) (c) (by omega) (by omega) (by omega) (by first | omega | exact bi_01 _) dX8_moveCreditIn_6 rfl (fun h hT => ?_)
  obtain ⟨X3, hX3⟩ : ∃ Z, Z = xs X 6 s c 1 := ⟨_, rfl⟩
  rw [← hX3] at hT
  have e8 : X3 8 = X 8 := by rw [hX3, xs_nk (by decide)]
  refine ev_ald0 8 dX8_moveCreditIn_7 rfl ?_
  refine ev_getfield 11 10 4 fl_X8_22_10 (tr4 hT (by first | assumption | exact wx_stu hW (by omega) | exact wx_crs hW (by omega) | exact wx_new hW) (by omega)) rfl dX8_moveCreditIn_8 rfl ?_
  refine ev_ild1 12 dX8_moveCreditIn_11 rfl ?_
  refine ev_ald0 13 dX8_moveCreditIn_12 rfl ?_
  refine ev_getfield 16 10 4 fl_X8_22_10 (tr4 hT (by first | assumption | exact wx_stu hW (by omega) | exact wx_crs hW (by omega) | exact wx_new hW) (by omega)) rfl dX8_moveCreditIn_13 rfl ?_
  refine ev_ild1 17 dX8_moveCreditIn_16 rfl ?_
  refine tv_iald 18 (tr8 hT (by first | assumption | exact wx_stu hW (by omega) | exact wx_crs hW (by omega) | exact wx_new hW) (by omega)) (c) (by omega) (by omega) (by omega) dX8_moveCreditIn_17 rfl ?_
  rw [e8]
  refine tj_bipush 20 dX8_moveCreditIn_18 (by decide) rfl ?_
  refine tj_mmax 23 dX8_moveCreditIn_20 mmax_X8_43 (by decide) (Nat.le_of_ble_eq_true rfl) rfl (by first | exact TR.rng hT _ _ _ | exact R31_of _ | exact bi_R _ | (constructor <;> omega)) (by first | exact TR.rng hT _ _ _ | exact R31_of _ | exact bi_R _ | (constructor <;> omega)) ?_
  rw [if_pos (show X 8 s c < 50 by omega)]
  refine tv_iast 24 hT (tv8 hT (by first | assumption | exact wx_stu hW (by omega) | exact wx_crs hW (by omega) | exact wx_new hW) (by omega)) (fun _ => rfl) (c) (by omega) (by omega) (by omega) (by first | exact TR.rng hT _ _ _ | exact R31_of _ | exact bi_R _ | (constructor <;> omega)) dX8_moveCreditIn_23 rfl (fun h hT => ?_)
  exact ev_vreturn (uq_v hT (by rw [hX3]; rfl)) rfl dX8_moveCreditIn_24
set_option maxRecDepth 100000 in
set_option maxHeartbeats 4000000 in
theorem c_X11_moveIn_x2 {g : Gt} {α : AL} {ν : Nat → Nat → Bool} {X : XM} {h : AH} (hT : TR g α ν X h) (hW : WX ν X) {s : Nat} (hs0 : (s : Int) < nS X) {c : Nat} (hc : (c : Int) < nC X) (hb : 50 ≤ X 8 s c) : Th g M_X11_moveIn 28 [.ref (α 0 0), .int (J (s : Int)), .int (J (c : Int))] h "java/lang/IllegalArgumentException" := by
  refine th_of rfl rfl (ls := [some (.ref (α 0 0)), some (.int (J (s : Int))), some (.int (J (c : Int))), none, none, none]) rfl (Nat.le_of_ble_eq_true rfl) ?_
  show Ev g M_X11_moveIn 28 0 [some (.ref (α 0 0)), some (.int (J (s : Int))), some (.int (J (c : Int))), none, none, none] [] h 1 6 (TQ "java/lang/IllegalArgumentException" h)
  have q1 := wo_nC hW.1
  have q3 := wo_nS hW.1
  have hs := wx_stu hW hs0
  have hl : s < 17 := by omega
  have qcr := wo_crd hW.1 c hc
  have qm : 0 ≤ movd X s ∧ movd X s ≤ 6 * ((nC X).toNat : Int) := crS_0 hW.1 (mvd X s) (nC X).toNat (by omega)
  have ps : psd X s c = decide (50 ≤ X 8 s c) := rfl
  rw [decide_eq_true hb] at ps
  refine ev_ald0 1 dX11_moveIn_0 rfl ?_
  refine ev_ild1 2 dX11_moveIn_1 rfl ?_
  refine tc_V1 5 13 dX11_moveIn_2 lkv_X11_93 (tr0 hT) rfl rfl (by first | decide | omega) (Nat.le_of_ble_eq_true rfl) (c_X11_studentAt_ok hT hW (by omega)) ?_
  refine ev_ast3 6 dX11_moveIn_5 rfl (by decide) rfl ?_
  refine ev_ald0 7 dX11_moveIn_6 rfl ?_
  refine ev_ild2 8 dX11_moveIn_7 rfl ?_
  refine tc_V1 11 13 dX11_moveIn_8 lkv_X11_104 (tr0 hT) rfl rfl (by first | decide | omega) (Nat.le_of_ble_eq_true rfl) (c_X11_courseAt_ok hT hW (by omega)) ?_
  refine ev_ast4 13 dX11_moveIn_11 rfl (by decide) rfl ?_
  refine ev_ald3 14 dX11_moveIn_13 rfl ?_
  refine ev_ild2 15 dX11_moveIn_14 rfl ?_
  refine tc_V1 18 10 dX11_moveIn_15 lkv_X11_283 (tr4 hT (by first | assumption | exact wx_stu hW (by omega) | exact wx_crs hW (by omega) | exact wx_new hW) (by omega)) rfl rfl (by first | decide | omega) (Nat.le_of_ble_eq_true rfl) (c_X8_hasPassed hT (by first | assumption | exact wx_stu hW (by omega)) (by omega) (by omega)) ?_
  refine tb_if_eq 32 21 dX11_moveIn_18 (by decide) rfl (fun c18 => ?_) (fun c18 => ?_)
  · exact False.elim (Bool.false_ne_true (c18.symm.trans ps))
  · skip
    exact ev_throwSW th_X11_63_287_67 rfl ⟨rfl, rfl⟩ (by decide) (by decide) dX11_moveIn_21 dX11_moveIn_24 dX11_moveIn_25 dX11_moveIn_28 dX11_moveIn_31 (by decide) (by decide)
set_option maxRecDepth 100000 in
set_option maxHeartbeats 4000000 in
theorem c_X11_moveIn_x3 {g : Gt} {α : AL} {ν : Nat → Nat → Bool} {X : XM} {h : AH} (hT : TR g α ν X h) (hW : WX ν X) {s : Nat} (hs0 : (s : Int) < nS X) {c : Nat} (hc : (c : Int) < nC X) (hb : X 8 s c < 50) (hm : 12 < movd X s + X 12 c 1) : Th g M_X11_moveIn 28 [.ref (α 0 0), .int (J (s : Int)), .int (J (c : Int))] h "java/lang/ArithmeticException" := by
  refine th_of rfl rfl (ls := [some (.ref (α 0 0)), some (.int (J (s : Int))), some (.int (J (c : Int))), none, none, none]) rfl (Nat.le_of_ble_eq_true rfl) ?_
  show Ev g M_X11_moveIn 28 0 [some (.ref (α 0 0)), some (.int (J (s : Int))), some (.int (J (c : Int))), none, none, none] [] h 1 6 (TQ "java/lang/ArithmeticException" h)
  have q1 := wo_nC hW.1
  have q3 := wo_nS hW.1
  have hs := wx_stu hW hs0
  have hl : s < 17 := by omega
  have qcr := wo_crd hW.1 c hc
  have qm : 0 ≤ movd X s ∧ movd X s ≤ 6 * ((nC X).toNat : Int) := crS_0 hW.1 (mvd X s) (nC X).toNat (by omega)
  have ps : psd X s c = decide (50 ≤ X 8 s c) := rfl
  have ps2 : psd X s c = false := decide_eq_false (by omega)
  refine ev_ald0 1 dX11_moveIn_0 rfl ?_
  refine ev_ild1 2 dX11_moveIn_1 rfl ?_
  refine tc_V1 5 13 dX11_moveIn_2 lkv_X11_93 (tr0 hT) rfl rfl (by first | decide | omega) (Nat.le_of_ble_eq_true rfl) (c_X11_studentAt_ok hT hW (by omega)) ?_
  refine ev_ast3 6 dX11_moveIn_5 rfl (by decide) rfl ?_
  refine ev_ald0 7 dX11_moveIn_6 rfl ?_
  refine ev_ild2 8 dX11_moveIn_7 rfl ?_
  refine tc_V1 11 13 dX11_moveIn_8 lkv_X11_104 (tr0 hT) rfl rfl (by first | decide | omega) (Nat.le_of_ble_eq_true rfl) (c_X11_courseAt_ok hT hW (by omega)) ?_
  refine ev_ast4 13 dX11_moveIn_11 rfl (by decide) rfl ?_
  refine ev_ald3 14 dX11_moveIn_13 rfl ?_
  refine ev_ild2 15 dX11_moveIn_14 rfl ?_
  refine tc_V1 18 10 dX11_moveIn_15 lkv_X11_283 (tr4 hT (by first | assumption | exact wx_stu hW (by omega) | exact wx_crs hW (by omega) | exact wx_new hW) (by omega)) rfl rfl (by first | decide | omega) (Nat.le_of_ble_eq_true rfl) (c_X8_hasPassed hT (by first | assumption | exact wx_stu hW (by omega)) (by omega) (by omega)) ?_
  refine tb_if_eq 32 21 dX11_moveIn_18 (by decide) rfl (fun c18 => ?_) (fun c18 => ?_)
  · skip
    refine ev_ald0 33 dX11_moveIn_32 rfl ?_
    refine ev_ald3 34 dX11_moveIn_33 rfl ?_
    refine tc_V1 37 13 dX11_moveIn_34 lkv_X11_289 (tr0 hT) rfl rfl (by first | decide | omega) (Nat.le_of_ble_eq_true rfl) (c_X11_creditsMovedIn hT hW (by first | assumption | exact wx_stu hW (by omega) | exact wx_new hW) (by omega)) ?_
    refine ev_ald4 39 dX11_moveIn_37 rfl ?_
    refine ev_getfield 42 5 1 fl_X11_292_5 (tr12 hT (by first | assumption | exact wx_stu hW (by omega) | exact wx_crs hW (by omega) | exact wx_new hW)) rfl dX11_moveIn_39 rfl ?_
    refine tj_iadd 43 dX11_moveIn_42 rfl ?_
    refine ev_ist5 45 dX11_moveIn_43 rfl (by decide) rfl ?_
    refine ev_ild5 47 dX11_moveIn_45 rfl ?_
    refine tj_bipush 49 dX11_moveIn_47 (by decide) rfl ?_
    refine tj_icmp_le 63 52 dX11_moveIn_49 (by decide) rfl (by first | exact TR.rng hT _ _ _ | exact R31_of _ | exact bi_R _ | (constructor <;> omega)) (by first | exact TR.rng hT _ _ _ | exact R31_of _ | exact bi_R _ | (constructor <;> omega)) (fun c49 => ?_) (fun c49 => ?_)
    · exact False.elim (by omega)
    · skip
      exact ev_throwSW th_X11_204_295_208 rfl ⟨rfl, rfl⟩ (by decide) (by decide) dX11_moveIn_52 dX11_moveIn_55 dX11_moveIn_56 dX11_moveIn_59 dX11_moveIn_62 (by decide) (by decide)
  · exact False.elim (Bool.false_ne_true (ps2.symm.trans c18))
set_option maxRecDepth 100000 in
set_option maxHeartbeats 4000000 in
theorem c_X11_moveIn_ok {g : Gt} {α : AL} {ν : Nat → Nat → Bool} {X : XM} {h : AH} (hT : TR g α ν X h) (hW : WX ν X) {s : Nat} (hs0 : (s : Int) < nS X) {c : Nat} (hc : (c : Int) < nC X) (hb : X 8 s c < 50) (hm : movd X s + X 12 c 1 ≤ 12) : Mu g α ν M_X11_moveIn 28 [.ref (α 0 0), .int (J (s : Int)), .int (J (c : Int))] h (some (.int (J (movd X s + X 12 c 1)))) (fun X' => X' = gv (mv X s c) ∧ WX ν X') := by
  refine mu_of rfl rfl (ls := [some (.ref (α 0 0)), some (.int (J (s : Int))), some (.int (J (c : Int))), none, none, none]) rfl (Nat.le_of_ble_eq_true rfl) ?_
  show Ev g M_X11_moveIn 28 0 [some (.ref (α 0 0)), some (.int (J (s : Int))), some (.int (J (c : Int))), none, none, none] [] h 0 0 (UQ g α ν (some (.int (J (movd X s + X 12 c 1)))) (fun X' => X' = gv (mv X s c) ∧ WX ν X'))
  have q1 := wo_nC hW.1
  have q3 := wo_nS hW.1
  have hs := wx_stu hW hs0
  have hl : s < 17 := by omega
  have qcr := wo_crd hW.1 c hc
  have qm : 0 ≤ movd X s ∧ movd X s ≤ 6 * ((nC X).toNat : Int) := crS_0 hW.1 (mvd X s) (nC X).toNat (by omega)
  have ps : psd X s c = decide (50 ≤ X 8 s c) := rfl
  have ps2 : psd X s c = false := decide_eq_false (by omega)
  have hW0 := hW
  refine ev_ald0 1 dX11_moveIn_0 rfl ?_
  refine ev_ild1 2 dX11_moveIn_1 rfl ?_
  refine tc_V1 5 13 dX11_moveIn_2 lkv_X11_93 (tr0 hT) rfl rfl (by first | decide | omega) (Nat.le_of_ble_eq_true rfl) (c_X11_studentAt_ok hT hW (by omega)) ?_
  refine ev_ast3 6 dX11_moveIn_5 rfl (by decide) rfl ?_
  refine ev_ald0 7 dX11_moveIn_6 rfl ?_
  refine ev_ild2 8 dX11_moveIn_7 rfl ?_
  refine tc_V1 11 13 dX11_moveIn_8 lkv_X11_104 (tr0 hT) rfl rfl (by first | decide | omega) (Nat.le_of_ble_eq_true rfl) (c_X11_courseAt_ok hT hW (by omega)) ?_
  refine ev_ast4 13 dX11_moveIn_11 rfl (by decide) rfl ?_
  refine ev_ald3 14 dX11_moveIn_13 rfl ?_
  refine ev_ild2 15 dX11_moveIn_14 rfl ?_
  refine tc_V1 18 10 dX11_moveIn_15 lkv_X11_283 (tr4 hT (by first | assumption | exact wx_stu hW (by omega) | exact wx_crs hW (by omega) | exact wx_new hW) (by omega)) rfl rfl (by first | decide | omega) (Nat.le_of_ble_eq_true rfl) (c_X8_hasPassed hT (by first | assumption | exact wx_stu hW (by omega)) (by omega) (by omega)) ?_
  refine tb_if_eq 32 21 dX11_moveIn_18 (by decide) rfl (fun c18 => ?_) (fun c18 => ?_)
  · skip
    refine ev_ald0 33 dX11_moveIn_32 rfl ?_
    refine ev_ald3 34 dX11_moveIn_33 rfl ?_
    refine tc_V1 37 13 dX11_moveIn_34 lkv_X11_289 (tr0 hT) rfl rfl (by first | decide | omega) (Nat.le_of_ble_eq_true rfl) (c_X11_creditsMovedIn hT hW (by first | assumption | exact wx_stu hW (by omega) | exact wx_new hW) (by omega)) ?_
    refine ev_ald4 39 dX11_moveIn_37 rfl ?_
    refine ev_getfield 42 5 1 fl_X11_292_5 (tr12 hT (by first | assumption | exact wx_stu hW (by omega) | exact wx_crs hW (by omega) | exact wx_new hW)) rfl dX11_moveIn_39 rfl ?_
    refine tj_iadd 43 dX11_moveIn_42 rfl ?_
    refine ev_ist5 45 dX11_moveIn_43 rfl (by decide) rfl ?_
    refine ev_ild5 47 dX11_moveIn_45 rfl ?_
    refine tj_bipush 49 dX11_moveIn_47 (by decide) rfl ?_
    refine tj_icmp_le 63 52 dX11_moveIn_49 (by decide) rfl (by first | exact TR.rng hT _ _ _ | exact R31_of _ | exact bi_R _ | (constructor <;> omega)) (by first | exact TR.rng hT _ _ _ | exact R31_of _ | exact bi_R _ | (constructor <;> omega)) (fun c49 => ?_) (fun c49 => ?_)
    · skip
      refine ev_ald3 64 dX11_moveIn_63 rfl ?_
      refine ev_ild2 65 dX11_moveIn_64 rfl ?_
      refine tmv_V1 68 10 dX11_moveIn_65 lkv_X11_297 (tr4 hT (by first | assumption | exact wx_stu hW (by omega) | exact wx_crs hW (by omega) | exact wx_new hW) (by omega)) rfl rfl (by first | decide | omega) (Nat.le_of_ble_eq_true rfl) (c_X8_moveCreditIn hT hW hs0 hc hb) (fun h X1 hT hP65 => ?_)
      have hW : WX ν X1 := by rw [hP65]; exact wx_mv hW0 hs0 hc hb
      refine ev_ald0 69 dX11_moveIn_68 rfl ?_
      refine tmv_V0 72 13 dX11_moveIn_69 lkv_X11_101 (tr0 hT) rfl rfl (by first | decide | omega) (Nat.le_of_ble_eq_true rfl) (c_X11_giveOutSeats hT hW) (fun h X1 hT hP69 => ?_)
      refine ev_ild5 74 dX11_moveIn_72 rfl ?_
      exact ev_ireturn (uq_i (by first | rfl | omega | exact bi_dt (by omega) | exact bi_df (by omega) | (skip)) hT (by rw [← hP65]; exact hP69)) rfl dX11_moveIn_74
    · exact False.elim (by omega)
  · exact False.elim (Bool.false_ne_true (ps2.symm.trans c18))
