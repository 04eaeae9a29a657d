set_option maxRecDepth 100000 in
set_option maxHeartbeats 4000000 in
theorem c_X11_changeMajor_ok {g : Gt} {α : AL} {ν : Nat → Nat → Bool} {X : XM} {h : AH} (hT : TR g α ν X h) (hW : WX ν X) {s : Nat} (hs0 : (s : Int) < nS X) {a1 : Int} (ha1 : R31 a1) (hm : 0 ≤ a1 ∧ a1 ≤ 3) : Mu g α ν M_X11_changeMajor 28 [.ref (α 0 0), .int (J (s : Int)), .int (J a1)] h (some (.int (J (X 4 s 0)))) (fun X' => X' = gv (xs X 4 s 0 a1) ∧ WX ν X') := by
  refine mu_of rfl rfl (ls := [some (.ref (α 0 0)), some (.int (J (s : Int))), some (.int (J a1)), none, none]) rfl (Nat.le_of_ble_eq_true rfl) ?_
  show Ev g M_X11_changeMajor 28 0 [some (.ref (α 0 0)), some (.int (J (s : Int))), some (.int (J a1)), none, none] [] h 0 0 (UQ g α ν (some (.int (J (X 4 s 0)))) (fun X' => X' = gv (xs X 4 s 0 a1) ∧ WX ν X'))
  have q1 := wo_nC hW.1
  have q3 := wo_nS hW.1
  have hs := wx_stu hW hs0
  have hl : s < 17 := by omega
  have hW0 := hW
  refine ev_ald0 1 dX11_changeMajor_0 rfl ?_
  refine ev_ild1 2 dX11_changeMajor_1 rfl ?_
  refine tc_V1 5 13 dX11_changeMajor_2 lkv_X11_93 (tr0 hT) rfl rfl (by first | decide | omega) (Nat.le_of_ble_eq_true rfl) (c_X11_studentAt_ok hT hW (by omega)) ?_
  refine ev_ast3 6 dX11_changeMajor_5 rfl (by decide) rfl ?_
  refine ev_ild2 7 dX11_changeMajor_6 rfl ?_
  refine tcv_S1 10 dX11_changeMajor_7 lks_X11_88 rfl (by first | decide | omega) (Nat.le_of_ble_eq_true rfl) (c_X11_checkMajor_ok (by first | exact TR.rng hT _ _ _ | exact R31_of _ | exact bi_R _ | (constructor <;> omega)) (by omega)) ?_
  refine ev_ald3 11 dX11_changeMajor_10 rfl ?_
  refine ev_getfield 14 10 0 fl_X11_97_10 (tr4 hT (by first | assumption | exact wx_stu hW (by omega) | exact wx_crs hW (by omega) | exact wx_new hW) (by omega)) rfl dX11_changeMajor_11 rfl ?_
  refine ev_ist4 16 dX11_changeMajor_14 rfl (by decide) rfl ?_
  refine ev_ald3 17 dX11_changeMajor_16 rfl ?_
  refine ev_ild2 18 dX11_changeMajor_17 rfl ?_
  refine tv_puti 21 0 .int fl_X11_97_10 fp_10_0 hT (tv4 hT (by first | assumption | exact wx_stu hW (by omega) | exact wx_crs hW (by omega) | exact wx_new hW) (by omega)) (fun _ => rfl) rfl (Nat.le_of_ble_eq_true rfl) rfl rfl (by first | exact TR.rng hT _ _ _ | exact R31_of _ | exact bi_R _ | (constructor <;> omega)) dX11_changeMajor_18 rfl (fun h hT => ?_)
  obtain ⟨X3, hX3⟩ : ∃ Z, Z = xs X 4 s 0 a1 := ⟨_, rfl⟩
  rw [← hX3] at hT
  have hW : WX ν X3 := by rw [hX3]; exact wx_cm hW0 hm
  refine ev_ald0 22 dX11_changeMajor_21 rfl ?_
  refine tmv_V0 25 13 dX11_changeMajor_22 lkv_X11_101 (tr0 hT) rfl rfl (by first | decide | omega) (Nat.le_of_ble_eq_true rfl) (c_X11_giveOutSeats hT hW) (fun h X1 hT hP22 => ?_)
  refine ev_ild4 27 dX11_changeMajor_25 rfl ?_
  exact ev_ireturn (uq_i (by first | rfl | omega | exact bi_dt (by omega) | exact bi_df (by omega) | (skip)) hT (by rw [← hX3]; exact hP22)) rfl dX11_changeMajor_27
set_option maxRecDepth 100000 in
set_option maxHeartbeats 4000000 in
theorem c_X11_require_ok {g : Gt} {α : AL} {ν : Nat → Nat → Bool} {X : XM} {h : AH} (hT : TR g α ν X h) (hW : WX ν X) {c : Nat} (hc : (c : Int) < nC X) {f : Nat} (hf : (f : Int) < nF X) : Mu g α ν M_X11_require 28 [.ref (α 0 0), .int (J (c : Int)), .int (J (f : Int))] h (some (.int (J (bi (decide (X 12 c 5 ≠ -1)))))) (fun X' => X' = gv (xs X 12 c 5 f) ∧ WX ν X') := by
  refine mu_of rfl rfl (ls := [some (.ref (α 0 0)), some (.int (J (c : Int))), some (.int (J (f : Int))), none, none]) rfl (Nat.le_of_ble_eq_true rfl) ?_
  show Ev g M_X11_require 28 0 [some (.ref (α 0 0)), some (.int (J (c : Int))), some (.int (J (f : Int))), none, none] [] h 0 0 (UQ g α ν (some (.int (J (bi (decide (X 12 c 5 ≠ -1)))))) (fun X' => X' = gv (xs X 12 c 5 f) ∧ WX ν X'))
  have q1 := wo_nC hW.1
  have q3 := wo_nS hW.1
  have hW0 := hW
  have qf9 := wo_nF hW.1
  have qr9 := wo_req hW.1 c hc
  refine ev_ald0 1 dX11_require_0 rfl ?_
  refine ev_ild1 2 dX11_require_1 rfl ?_
  refine tc_V1 5 13 dX11_require_2 lkv_X11_104 (tr0 hT) rfl rfl (by first | decide | omega) (Nat.le_of_ble_eq_true rfl) (c_X11_courseAt_ok hT hW (by omega)) ?_
  refine ev_ast3 6 dX11_require_5 rfl (by decide) rfl ?_
  refine ev_ald0 7 dX11_require_6 rfl ?_
  refine ev_ild2 8 dX11_require_7 rfl ?_
  refine tc_V1 11 13 dX11_require_8 lkv_X11_144 (tr0 hT) rfl rfl (by first | decide | omega) (Nat.le_of_ble_eq_true rfl) (c_X11_formulaAt_ok hT hW (by omega)) ?_
  refine ev_pop 12 dX11_require_11 rfl rfl ?_
  refine ev_ald3 13 dX11_require_12 rfl ?_
  refine ev_getfield 16 5 5 fl_X11_175_5 (tr12 hT (by first | assumption | exact wx_stu hW (by omega) | exact wx_crs hW (by omega) | exact wx_new hW)) rfl dX11_require_13 rfl ?_
  refine tj_iconst 17 dX11_require_16 rfl ?_
  refine tj_icmp_eq 24 20 dX11_require_17 (by decide) rfl (by first | exact TR.rng hT _ _ _ | exact R31_of _ | exact bi_R _ | (constructor <;> omega)) (by first | exact TR.rng hT _ _ _ | exact R31_of _ | exact bi_R _ | (constructor <;> omega)) (fun c17 => ?_) (fun c17 => ?_)
  · skip
    have hq8 : ¬ (X 12 c 5 ≠ -1) := by omega
    refine tj_iconst 25 dX11_require_24 rfl ?_
    refine ev_ist4 27 dX11_require_25 rfl (by decide) rfl ?_
    refine ev_ald3 28 dX11_require_27 rfl ?_
    refine ev_ild2 29 dX11_require_28 rfl ?_
    refine tv_puti 32 5 .int fl_X11_175_5 fp_5_5 hT (tv12 hT (by first | assumption | exact wx_stu hW (by omega) | exact wx_crs hW (by omega) | exact wx_new hW)) (fun _ => rfl) rfl (Nat.le_of_ble_eq_true rfl) rfl rfl (by first | exact TR.rng hT _ _ _ | exact R31_of _ | exact bi_R _ | (constructor <;> omega)) dX11_require_29 rfl (fun h hT => ?_)
    obtain ⟨X3, hX3⟩ : ∃ Z, Z = xs X 12 c 5 (f : Int) := ⟨_, rfl⟩
    rw [← hX3] at hT
    have hW : WX ν X3 := by rw [hX3]; exact wx_rq hW0 ⟨by omega, hf⟩
    refine ev_ald0 33 dX11_require_32 rfl ?_
    refine tmv_V0 36 13 dX11_require_33 lkv_X11_101 (tr0 hT) rfl rfl (by first | decide | omega) (Nat.le_of_ble_eq_true rfl) (c_X11_giveOutSeats hT hW) (fun h X1 hT hP33 => ?_)
    refine ev_ild4 38 dX11_require_36 rfl ?_
    exact tz_retU (by first | rfl | omega | exact bi_dt (by omega) | exact bi_df (by omega) | (first | (rw [decide_eq_true hq8]; rfl) | (rw [decide_eq_false hq8]; rfl))) hT (by rw [← hX3]; exact hP33) rfl dX11_require_38
  · skip
    have hq8 : X 12 c 5 ≠ -1 := by omega
    refine tj_iconst 21 dX11_require_20 rfl ?_
    refine ev_goto 25 dX11_require_21 (by decide) ?_
    refine ev_ist4 27 dX11_require_25 rfl (by decide) rfl ?_
    refine ev_ald3 28 dX11_require_27 rfl ?_
    refine ev_ild2 29 dX11_require_28 rfl ?_
    refine tv_puti 32 5 .int fl_X11_175_5 fp_5_5 hT (tv12 hT (by first | assumption | exact wx_stu hW (by omega) | exact wx_crs hW (by omega) | exact wx_new hW)) (fun _ => rfl) rfl (Nat.le_of_ble_eq_true rfl) rfl rfl (by first | exact TR.rng hT _ _ _ | exact R31_of _ | exact bi_R _ | (constructor <;> omega)) dX11_require_29 rfl (fun h hT => ?_)
    obtain ⟨X3, hX3⟩ : ∃ Z, Z = xs X 12 c 5 (f : Int) := ⟨_, rfl⟩
    rw [← hX3] at hT
    have hW : WX ν X3 := by rw [hX3]; exact wx_rq hW0 ⟨by omega, hf⟩
    refine ev_ald0 33 dX11_require_32 rfl ?_
    refine tmv_V0 36 13 dX11_require_33 lkv_X11_101 (tr0 hT) rfl rfl (by first | decide | omega) (Nat.le_of_ble_eq_true rfl) (c_X11_giveOutSeats hT hW) (fun h X1 hT hP33 => ?_)
    refine ev_ild4 38 dX11_require_36 rfl ?_
    exact tz_retU (by first | rfl | omega | exact bi_dt (by omega) | exact bi_df (by omega) | (first | (rw [decide_eq_true hq8]; rfl) | (rw [decide_eq_false hq8]; rfl))) hT (by rw [← hX3]; exact hP33) rfl dX11_require_38
set_option maxRecDepth 100000 in
set_option maxHeartbeats 4000000 in
theorem c_X11_lift_ok {g : Gt} {α : AL} {ν : Nat → Nat → Bool} {X : XM} {h : AH} (hT : TR g α ν X h) (hW : WX ν X) {c : Nat} (hc : (c : Int) < nC X) : Mu g α ν M_X11_lift 28 [.ref (α 0 0), .int (J (c : Int))] h (some (.int (J (bi (decide (X 12 c 5 ≠ -1)))))) (fun X' => X' = gv (xs X 12 c 5 (-1)) ∧ WX ν X') := by
  refine mu_of rfl rfl (ls := [some (.ref (α 0 0)), some (.int (J (c : Int))), none, none]) rfl (Nat.le_of_ble_eq_true rfl) ?_
  show Ev g M_X11_lift 28 0 [some (.ref (α 0 0)), some (.int (J (c : Int))), none, none] [] h 0 0 (UQ g α ν (some (.int (J (bi (decide (X 12 c 5 ≠ -1)))))) (fun X' => X' = gv (xs X 12 c 5 (-1)) ∧ WX ν X'))
  have q1 := wo_nC hW.1
  have q3 := wo_nS hW.1
  have hW0 := hW
  have qf9 := wo_nF hW.1
  have qr9 := wo_req hW.1 c hc
  refine ev_ald0 1 dX11_lift_0 rfl ?_
  refine ev_ild1 2 dX11_lift_1 rfl ?_
  refine tc_V1 5 13 dX11_lift_2 lkv_X11_104 (tr0 hT) rfl rfl (by first | decide | omega) (Nat.le_of_ble_eq_true rfl) (c_X11_courseAt_ok hT hW (by omega)) ?_
  refine ev_ast2 6 dX11_lift_5 rfl (by decide) rfl ?_
  refine ev_ald2 7 dX11_lift_6 rfl ?_
  refine ev_getfield 10 5 5 fl_X11_175_5 (tr12 hT (by first | assumption | exact wx_stu hW (by omega) | exact wx_crs hW (by omega) | exact wx_new hW)) rfl dX11_lift_7 rfl ?_
  refine tj_iconst 11 dX11_lift_10 rfl ?_
  refine tj_icmp_eq 18 14 dX11_lift_11 (by decide) rfl (by first | exact TR.rng hT _ _ _ | exact R31_of _ | exact bi_R _ | (constructor <;> omega)) (by first | exact TR.rng hT _ _ _ | exact R31_of _ | exact bi_R _ | (constructor <;> omega)) (fun c11 => ?_) (fun c11 => ?_)
  · skip
    have hq8 : ¬ (X 12 c 5 ≠ -1) := by omega
    refine tj_iconst 19 dX11_lift_18 rfl ?_
    refine ev_ist3 20 dX11_lift_19 rfl (by decide) rfl ?_
    refine ev_ald2 21 dX11_lift_20 rfl ?_
    refine tj_iconst 22 dX11_lift_21 rfl ?_
    refine tv_puti 25 5 .int fl_X11_175_5 fp_5_5 hT (tv12 hT (by first | assumption | exact wx_stu hW (by omega) | exact wx_crs hW (by omega) | exact wx_new hW)) (fun _ => rfl) rfl (Nat.le_of_ble_eq_true rfl) rfl rfl (by first | exact TR.rng hT _ _ _ | exact R31_of _ | exact bi_R _ | (constructor <;> omega)) dX11_lift_22 rfl (fun h hT => ?_)
    obtain ⟨X3, hX3⟩ : ∃ Z, Z = xs X 12 c 5 (-1) := ⟨_, rfl⟩
    rw [← hX3] at hT
    have hW : WX ν X3 := by rw [hX3]; exact wx_rq hW0 ⟨by omega, by omega⟩
    refine ev_ald0 26 dX11_lift_25 rfl ?_
    refine tmv_V0 29 13 dX11_lift_26 lkv_X11_101 (tr0 hT) rfl rfl (by first | decide | omega) (Nat.le_of_ble_eq_true rfl) (c_X11_giveOutSeats hT hW) (fun h X1 hT hP26 => ?_)
    refine ev_ild3 30 dX11_lift_29 rfl ?_
    exact tz_retU (by first | rfl | omega | exact bi_dt (by omega) | exact bi_df (by omega) | (first | (rw [decide_eq_true hq8]; rfl) | (rw [decide_eq_false hq8]; rfl))) hT (by rw [← hX3]; exact hP26) rfl dX11_lift_30
  · skip
    have hq8 : X 12 c 5 ≠ -1 := by omega
    refine tj_iconst 15 dX11_lift_14 rfl ?_
    refine ev_goto 19 dX11_lift_15 (by decide) ?_
    refine ev_ist3 20 dX11_lift_19 rfl (by decide) rfl ?_
    refine ev_ald2 21 dX11_lift_20 rfl ?_
    refine tj_iconst 22 dX11_lift_21 rfl ?_
    refine tv_puti 25 5 .int fl_X11_175_5 fp_5_5 hT (tv12 hT (by first | assumption | exact wx_stu hW (by omega) | exact wx_crs hW (by omega) | exact wx_new hW)) (fun _ => rfl) rfl (Nat.le_of_ble_eq_true rfl) rfl rfl (by first | exact TR.rng hT _ _ _ | exact R31_of _ | exact bi_R _ | (constructor <;> omega)) dX11_lift_22 rfl (fun h hT => ?_)
    obtain ⟨X3, hX3⟩ : ∃ Z, Z = xs X 12 c 5 (-1) := ⟨_, rfl⟩
    rw [← hX3] at hT
    have hW : WX ν X3 := by rw [hX3]; exact wx_rq hW0 ⟨by omega, by omega⟩
    refine ev_ald0 26 dX11_lift_25 rfl ?_
    refine tmv_V0 29 13 dX11_lift_26 lkv_X11_101 (tr0 hT) rfl rfl (by first | decide | omega) (Nat.le_of_ble_eq_true rfl) (c_X11_giveOutSeats hT hW) (fun h X1 hT hP26 => ?_)
    refine ev_ild3 30 dX11_lift_29 rfl ?_
    exact tz_retU (by first | rfl | omega | exact bi_dt (by omega) | exact bi_df (by omega) | (first | (rw [decide_eq_true hq8]; rfl) | (rw [decide_eq_false hq8]; rfl))) hT (by rw [← hX3]; exact hP26) rfl dX11_lift_30
set_option maxRecDepth 100000 in
set_option maxHeartbeats 4000000 in
theorem c_X11_mark_ok {g : Gt} {α : AL} {ν : Nat → Nat → Bool} {X : XM} {h : AH} (hT : TR g α ν X h) (hW : WX ν X) {s : Nat} (hs0 : (s : Int) < nS X) {c : Nat} (hc : (c : Int) < nC X) {a2 : Int} (ha2 : R31 a2) (ht : tak X s c = true) (hm : 0 ≤ a2 ∧ a2 ≤ 100) (hd : 20 < X 0 0 5) : Mu g α ν M_X11_mark 28 [.ref (α 0 0), .int (J (s : Int)), .int (J (c : Int)), .int (J a2)] h (some (.int (J (bi (decide (X 7 s c ≠ -1)))))) (fun X' => X' = xs X 7 s c a2 ∧ WX ν X') := by
  refine mu_of rfl rfl (ls := [some (.ref (α 0 0)), some (.int (J (s : Int))), some (.int (J (c : Int))), some (.int (J a2)), none, none]) rfl (Nat.le_of_ble_eq_true rfl) ?_
  show Ev g M_X11_mark 28 0 [some (.ref (α 0 0)), some (.int (J (s : Int))), some (.int (J (c : Int))), some (.int (J a2)), none, none] [] h 0 0 (UQ g α ν (some (.int (J (bi (decide (X 7 s c ≠ -1)))))) (fun X' => X' = xs X 7 s c a2 ∧ WX ν X'))
  have q1 := wo_nC hW.1
  have q3 := wo_nS hW.1
  have hs := wx_stu hW hs0
  have hl : s < 17 := by omega
  have wt := wo_t01 hW.1 s c (by omega)
  have ht2 : X 5 s c ≠ 0 := of_decide_eq_true ht
  refine ev_ald0 1 dX11_mark_0 rfl ?_
  refine ev_ild1 2 dX11_mark_1 rfl ?_
  refine tc_V1 5 13 dX11_mark_2 lkv_X11_93 (tr0 hT) rfl rfl (by first | decide | omega) (Nat.le_of_ble_eq_true rfl) (c_X11_studentAt_ok hT hW (by omega)) ?_
  refine ev_ast4 7 dX11_mark_5 rfl (by decide) rfl ?_
  refine ev_ald0 8 dX11_mark_7 rfl ?_
  refine ev_ild2 9 dX11_mark_8 rfl ?_
  refine tc_V1 12 13 dX11_mark_9 lkv_X11_104 (tr0 hT) rfl rfl (by first | decide | omega) (Nat.le_of_ble_eq_true rfl) (c_X11_courseAt_ok hT hW (by omega)) ?_
  refine ev_pop 13 dX11_mark_12 rfl rfl ?_
  refine ev_ald4 15 dX11_mark_13 rfl ?_
  refine ev_getfield 18 10 1 fl_X11_214_10 (tr4 hT (by first | assumption | exact wx_stu hW (by omega) | exact wx_crs hW (by omega) | exact wx_new hW) (by omega)) rfl dX11_mark_15 rfl ?_
  refine ev_ild2 19 dX11_mark_18 rfl ?_
  refine tv_zald 20 (tr5 hT (by first | assumption | exact wx_stu hW (by omega) | exact wx_crs hW (by omega) | exact wx_new hW) (by omega)) (c) (by omega) (by omega) (by omega) dX11_mark_19 rfl ?_
  refine tj_if_ne 34 23 dX11_mark_20 (by decide) rfl (by first | exact TR.rng hT _ _ _ | exact R31_of _ | exact bi_R _ | (constructor <;> omega)) (fun c20 => ?_) (fun c20 => ?_)
  · skip
    refine ev_ild3 35 dX11_mark_34 rfl ?_
    refine tcv_S1 38 dX11_mark_35 lks_X11_121 rfl (by first | decide | omega) (Nat.le_of_ble_eq_true rfl) (c_X11_checkMark_ok (by first | exact TR.rng hT _ _ _ | exact R31_of _ | exact bi_R _ | (constructor <;> omega)) (by omega)) ?_
    refine ev_ald0 39 dX11_mark_38 rfl ?_
    refine ev_getfield 42 13 5 fl_X11_180_13 (tr0 hT) rfl dX11_mark_39 rfl ?_
    refine tj_bipush 44 dX11_mark_42 (by decide) rfl ?_
    refine tj_icmp_ge 58 47 dX11_mark_44 (by decide) rfl (by first | exact TR.rng hT _ _ _ | exact R31_of _ | exact bi_R _ | (constructor <;> omega)) (by first | exact TR.rng hT _ _ _ | exact R31_of _ | exact bi_R _ | (constructor <;> omega)) (fun c44 => ?_) (fun c44 => ?_)
    · skip
      refine ev_ald4 60 dX11_mark_58 rfl ?_
      refine ev_getfield 63 10 3 fl_X11_273_10 (tr4 hT (by first | assumption | exact wx_stu hW (by omega) | exact wx_crs hW (by omega) | exact wx_new hW) (by omega)) rfl dX11_mark_60 rfl ?_
      refine ev_ild2 64 dX11_mark_63 rfl ?_
      refine tv_iald 65 (tr7 hT (by first | assumption | exact wx_stu hW (by omega) | exact wx_crs hW (by omega) | exact wx_new hW) (by omega)) (c) (by omega) (by omega) (by omega) dX11_mark_64 rfl ?_
      refine tj_iconst 66 dX11_mark_65 rfl ?_
      refine tj_icmp_eq 73 69 dX11_mark_66 (by decide) rfl (by first | exact TR.rng hT _ _ _ | exact R31_of _ | exact bi_R _ | (constructor <;> omega)) (by first | exact TR.rng hT _ _ _ | exact R31_of _ | exact bi_R _ | (constructor <;> omega)) (fun c66 => ?_) (fun c66 => ?_)
      · skip
        have hq8 : ¬ (X 7 s c ≠ -1) := by omega
        refine tj_iconst 74 dX11_mark_73 rfl ?_
        refine ev_ist5 76 dX11_mark_74 rfl (by decide) rfl ?_
        refine ev_ald4 78 dX11_mark_76 rfl ?_
        refine ev_getfield 81 10 3 fl_X11_273_10 (tr4 hT (by first | assumption | exact wx_stu hW (by omega) | exact wx_crs hW (by omega) | exact wx_new hW) (by omega)) rfl dX11_mark_78 rfl ?_
        refine ev_ild2 82 dX11_mark_81 rfl ?_
        refine ev_ild3 83 dX11_mark_82 rfl ?_
        refine tv_iast 84 hT (tv7 hT (by first | assumption | exact wx_stu hW (by omega) | exact wx_crs hW (by omega) | exact wx_new hW) (by omega)) (fun _ => rfl) (c) (by omega) (by omega) (by omega) (by first | exact TR.rng hT _ _ _ | exact R31_of _ | exact bi_R _ | (constructor <;> omega)) dX11_mark_83 rfl (fun h hT => ?_)
        refine ev_ild5 86 dX11_mark_84 rfl ?_
        exact tz_retU (by first | rfl | omega | exact bi_dt (by omega) | exact bi_df (by omega) | (first | (rw [decide_eq_true hq8]; rfl) | (rw [decide_eq_false hq8]; rfl))) hT (by exact ⟨rfl, wx_mk hW hc (by omega)⟩) rfl dX11_mark_86
      · skip
        have hq8 : X 7 s c ≠ -1 := by omega
        refine tj_iconst 70 dX11_mark_69 rfl ?_
        refine ev_goto 74 dX11_mark_70 (by decide) ?_
        refine ev_ist5 76 dX11_mark_74 rfl (by decide) rfl ?_
        refine ev_ald4 78 dX11_mark_76 rfl ?_
        refine ev_getfield 81 10 3 fl_X11_273_10 (tr4 hT (by first | assumption | exact wx_stu hW (by omega) | exact wx_crs hW (by omega) | exact wx_new hW) (by omega)) rfl dX11_mark_78 rfl ?_
        refine ev_ild2 82 dX11_mark_81 rfl ?_
        refine ev_ild3 83 dX11_mark_82 rfl ?_
        refine tv_iast 84 hT (tv7 hT (by first | assumption | exact wx_stu hW (by omega) | exact wx_crs hW (by omega) | exact wx_new hW) (by omega)) (fun _ => rfl) (c) (by omega) (by omega) (by omega) (by first | exact TR.rng hT _ _ _ | exact R31_of _ | exact bi_R _ | (constructor <;> omega)) dX11_mark_83 rfl (fun h hT => ?_)
        refine ev_ild5 86 dX11_mark_84 rfl ?_
        exact tz_retU (by first | rfl | omega | exact bi_dt (by omega) | exact bi_df (by omega) | (first | (rw [decide_eq_true hq8]; rfl) | (rw [decide_eq_false hq8]; rfl))) hT (by exact ⟨rfl, wx_mk hW hc (by omega)⟩) rfl dX11_mark_86
    · exact False.elim (by omega)
  · exact False.elim (by omega)
set_option maxRecDepth 100000 in
set_option maxHeartbeats 4000000 in
theorem c_X2_allReserved {g : Gt} {α : AL} {ν : Nat → Nat → Bool} {X : XM} {h : AH} (hT : TR g α ν X h) (hW : WX ν X) {c : Nat} (hc : (c : Int) < nC X) : Pr g M_X2_allReserved 0 [.ref (α 12 c)] h (some (.int (J (rsA X c 4)))) := by
  refine pr_of rfl rfl (ls := [some (.ref (α 12 c)), none, none]) rfl (Nat.le_of_ble_eq_true rfl) ?_
  show Ev g M_X2_allReserved 0 0 [some (.ref (α 12 c)), none, none] [] h 0 0 (PQ (some (.int (J (rsA X c 4)))) h)
  have q1 := wo_nC hW.1
  have q3 := wo_nS hW.1
  refine tj_iconst 1 dX2_allReserved_0 rfl ?_
  refine ev_ist1 2 dX2_allReserved_1 rfl (by decide) rfl ?_
  refine tj_iconst 3 dX2_allReserved_2 rfl ?_
  refine ev_ist2 4 dX2_allReserved_3 rfl (by decide) rfl ?_
  have lp4 : ∀ (n4 : Nat) (k : Nat) (z1 : Int) (z2 : Int) , 5 - k < n4 → (k ≤ 4) → z1 = rsA X c k → z2 = (k : Int) → Ev g M_X2_allReserved 0 4 [some (.ref (α 12 c)), some (.int (J z1)), some (.int (J z2))] [] h 0 0 (PQ (some (.int (J (rsA X c 4)))) h) := by
    intro n4
    induction n4 with
    | zero => intro k z1 z2 hm; exact absurd hm (Nat.not_lt_zero _)
    | succ n4 ih4 =>
      intro k z1 z2 hm4 hk e1 e2
      subst e1
      subst e2
      refine ev_ild2 5 dX2_allReserved_4 rfl ?_
      refine tj_iconst 6 dX2_allReserved_5 rfl ?_
      refine tj_icmp_ge 24 9 dX2_allReserved_6 (by decide) rfl (by first | exact TR.rng hT _ _ _ | exact R31_of _ | exact bi_R _ | (constructor <;> omega)) (by first | exact TR.rng hT _ _ _ | exact R31_of _ | exact bi_R _ | (constructor <;> omega)) (fun c6 => ?_) (fun c6 => ?_)
      · skip
        refine ev_ild1 25 dX2_allReserved_24 rfl ?_
        exact ev_ireturn (pq_i (by first | rfl | omega | exact bi_dt (by omega) | exact bi_df (by omega) | (rw [show k = 4 by omega]))) rfl dX2_allReserved_25
      · skip
        refine ev_ild1 10 dX2_allReserved_9 rfl ?_
        refine ev_ald0 11 dX2_allReserved_10 rfl ?_
        refine ev_getfield 14 5 3 fl_X2_9_5 (tr12 hT (by first | assumption | exact wx_stu hW (by omega) | exact wx_crs hW (by omega) | exact wx_new hW)) rfl dX2_allReserved_11 rfl ?_
        refine ev_ild2 15 dX2_allReserved_14 rfl ?_
        refine tv_iald 16 (tr13 hT (by first | assumption | exact wx_stu hW (by omega) | exact wx_crs hW (by omega) | exact wx_new hW)) (k) (by omega) (by omega) (by omega) dX2_allReserved_15 rfl ?_
        refine tj_iadd 17 dX2_allReserved_16 rfl ?_
        refine ev_ist1 18 dX2_allReserved_17 rfl (by decide) rfl ?_
        refine tj_inc2 21 dX2_allReserved_18 rfl (by decide) rfl ?_
        refine ev_goto 4 dX2_allReserved_21 (by decide) ?_
        exact ih4 (k + 1) _ _ (by omega) (by first | omega | assumption | omega) (by first | rfl | omega | (rw [rsA])) (by first | rfl | omega | (rw [rsA]))
  exact lp4 _ (0) _ _ (Nat.lt_succ_self _) (by first | omega | assumption | omega) (by first | rfl | omega | (rw [rsA])) (by first | rfl | omega | (rw [rsA]))
set_option maxRecDepth 100000 in
set_option maxHeartbeats 4000000 in
theorem c_X11_reserve_ok {g : Gt} {α : AL} {ν : Nat → Nat → Bool} {X : XM} {h : AH} (hT : TR g α ν X h) (hW : WX ν X) {c : Nat} (hc : (c : Int) < nC X) {m : Nat} (hm : m < 4) {a2 : Int} (ha2 : R31 a2) (h0 : 0 ≤ a2) (hn : a2 ≤ X 12 c 2 - rsO X c m 4) : Mu g α ν M_X11_reserve 28 [.ref (α 0 0), .int (J (c : Int)), .int (J (m : Int)), .int (J a2)] h (some (.int (J (X 13 c m)))) (fun X' => X' = gv (xs X 13 c m a2) ∧ WX ν X') := by
  refine mu_of rfl rfl (ls := [some (.ref (α 0 0)), some (.int (J (c : Int))), some (.int (J (m : Int))), some (.int (J a2)), none, none]) rfl (Nat.le_of_ble_eq_true rfl) ?_
  show Ev g M_X11_reserve 28 0 [some (.ref (α 0 0)), some (.int (J (c : Int))), some (.int (J (m : Int))), some (.int (J a2)), none, none] [] h 0 0 (UQ g α ν (some (.int (J (X 13 c m)))) (fun X' => X' = gv (xs X 13 c m a2) ∧ WX ν X'))
  have q1 := wo_nC hW.1
  have q3 := wo_nS hW.1
  have hra := rsA_O (O := X) (c := c) (m := m) 4
  rw [if_pos hm] at hra
  have hro := rsO_R hW.1 hc m 4 (by omega)
  have hse := wo_sea hW.1 c hc
  have hre := wo_res hW.1 c m hc hm
  have hW0 := hW
  refine ev_ald0 1 dX11_reserve_0 rfl ?_
  refine ev_ild1 2 dX11_reserve_1 rfl ?_
  refine tc_V1 5 13 dX11_reserve_2 lkv_X11_104 (tr0 hT) rfl rfl (by first | decide | omega) (Nat.le_of_ble_eq_true rfl) (c_X11_courseAt_ok hT hW (by omega)) ?_
  refine ev_ast4 7 dX11_reserve_5 rfl (by decide) rfl ?_
  refine ev_ild2 8 dX11_reserve_7 rfl ?_
  refine tcv_S1 11 dX11_reserve_8 lks_X11_88 rfl (by first | decide | omega) (Nat.le_of_ble_eq_true rfl) (c_X11_checkMajor_ok (by first | exact TR.rng hT _ _ _ | exact R31_of _ | exact bi_R _ | (constructor <;> omega)) (by omega)) ?_
  refine ev_ild3 12 dX11_reserve_11 rfl ?_
  refine tj_if_ge 25 15 dX11_reserve_12 (by decide) rfl (by first | exact TR.rng hT _ _ _ | exact R31_of _ | exact bi_R _ | (constructor <;> omega)) (fun c12 => ?_) (fun c12 => ?_)
  · skip
    refine ev_ald4 27 dX11_reserve_25 rfl ?_
    refine ev_getfield 30 5 3 fl_X11_110_5 (tr12 hT (by first | assumption | exact wx_stu hW (by omega) | exact wx_crs hW (by omega) | exact wx_new hW)) rfl dX11_reserve_27 rfl ?_
    refine ev_ild2 31 dX11_reserve_30 rfl ?_
    refine tv_iald 32 (tr13 hT (by first | assumption | exact wx_stu hW (by omega) | exact wx_crs hW (by omega) | exact wx_new hW)) (m) (by omega) (by omega) (by omega) dX11_reserve_31 rfl ?_
    refine ev_ist5 34 dX11_reserve_32 rfl (by decide) rfl ?_
    refine ev_ild3 35 dX11_reserve_34 rfl ?_
    refine ev_ald4 37 dX11_reserve_35 rfl ?_
    refine ev_getfield 40 5 2 fl_X11_113_5 (tr12 hT (by first | assumption | exact wx_stu hW (by omega) | exact wx_crs hW (by omega) | exact wx_new hW)) rfl dX11_reserve_37 rfl ?_
    refine ev_ald4 42 dX11_reserve_40 rfl ?_
    refine tc_V0 45 5 dX11_reserve_42 lkv_X11_116 (tr12 hT (by first | assumption | exact wx_stu hW (by omega) | exact wx_crs hW (by omega) | exact wx_new hW)) rfl rfl (by first | decide | omega) (Nat.le_of_ble_eq_true rfl) (c_X2_allReserved hT hW (by omega)) ?_
    refine ev_ild5 47 dX11_reserve_45 rfl ?_
    refine tj_isub 48 dX11_reserve_47 rfl ?_
    refine tj_isub 49 dX11_reserve_48 rfl ?_
    refine tj_icmp_le 62 52 dX11_reserve_49 (by decide) rfl (by first | exact TR.rng hT _ _ _ | exact R31_of _ | exact bi_R _ | (constructor <;> omega)) (by first | exact TR.rng hT _ _ _ | exact R31_of _ | exact bi_R _ | (constructor <;> omega)) (fun c49 => ?_) (fun c49 => ?_)
    · skip
      refine ev_ald4 64 dX11_reserve_62 rfl ?_
      refine ev_getfield 67 5 3 fl_X11_110_5 (tr12 hT (by first | assumption | exact wx_stu hW (by omega) | exact wx_crs hW (by omega) | exact wx_new hW)) rfl dX11_reserve_64 rfl ?_
      refine ev_ild2 68 dX11_reserve_67 rfl ?_
      refine ev_ild3 69 dX11_reserve_68 rfl ?_
      refine tv_iast 70 hT (tv13 hT (by first | assumption | exact wx_stu hW (by omega) | exact wx_crs hW (by omega) | exact wx_new hW)) (fun _ => rfl) (m) (by omega) (by omega) (by omega) (by first | exact TR.rng hT _ _ _ | exact R31_of _ | exact bi_R _ | (constructor <;> omega)) dX11_reserve_69 rfl (fun h hT => ?_)
      obtain ⟨X3, hX3⟩ : ∃ Z, Z = xs X 13 c m a2 := ⟨_, rfl⟩
      rw [← hX3] at hT
      have hW : WX ν X3 := by rw [hX3]; exact wx_rs hW0 (by omega)
      refine ev_ald0 71 dX11_reserve_70 rfl ?_
      refine tmv_V0 74 13 dX11_reserve_71 lkv_X11_101 (tr0 hT) rfl rfl (by first | decide | omega) (Nat.le_of_ble_eq_true rfl) (c_X11_giveOutSeats hT hW) (fun h X1 hT hP71 => ?_)
      refine ev_ild5 76 dX11_reserve_74 rfl ?_
      exact ev_ireturn (uq_i (by first | rfl | omega | exact bi_dt (by omega) | exact bi_df (by omega) | (skip)) hT (by rw [← hX3]; exact hP71)) rfl dX11_reserve_76
    · exact False.elim (by omega)
  · exact False.elim (by omega)
