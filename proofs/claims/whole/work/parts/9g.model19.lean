/-! THE REFERENCE MAKES -/
set_option maxRecDepth 100000 in
set_option maxHeartbeats 4000000 in
theorem c_X12_addCourse_x1 {g : Gt} {α : AL} {ν : Nat → Nat → Bool} {X : XM} {h : AH} (hT : TR g α ν X h) {O : XM} (hO : WO O) (hM : RM O X) {a0 : Int} (ha0 : R31 a0) {a1 : Int} (ha1 : R31 a1) (hm : ¬ (1 ≤ a0 ∧ a0 ≤ 6) ∨ ¬ (1 ≤ a1 ∧ a1 ≤ 12)) : Mu g α ν M_X12_addCourse 27 [.ref (α 40 0), .int (J a0), .int (J a1)] h (some (.int (J (0)))) (fun X' => X' = xs X 40 0 0 1) := by
  refine mu_of rfl rfl (ls := [some (.ref (α 40 0)), some (.int (J a0)), some (.int (J a1))]) rfl (Nat.le_of_ble_eq_true rfl) ?_
  show Ev g M_X12_addCourse 27 0 [some (.ref (α 40 0)), some (.int (J a0)), some (.int (J a1))] [] h 0 0 (UQ g α ν (some (.int (J (0)))) (fun X' => X' = xs X 40 0 0 1))
  have q0 := rm_nC hM
  have q1 := wo_nC hO
  have q2 := rm_nS hM
  have q3 := wo_nS hO
  refine ev_ald0 1 dX12_addCourse_0 rfl ?_
  refine ev_ild1 2 dX12_addCourse_1 rfl ?_
  refine tj_iconst 3 dX12_addCourse_2 rfl ?_
  refine tj_bipush 5 dX12_addCourse_3 (by decide) rfl ?_
  refine tc_S3 8 dX12_addCourse_5 lks_X12_96 rfl (by first | decide | omega) (Nat.le_of_ble_eq_true rfl) (c_X12_in (by first | exact TR.rng hT _ _ _ | exact R31_of _ | exact bi_R _ | (constructor <;> omega)) (by first | exact TR.rng hT _ _ _ | exact R31_of _ | exact bi_R _ | (constructor <;> omega)) (by first | exact TR.rng hT _ _ _ | exact R31_of _ | exact bi_R _ | (constructor <;> omega))) ?_
  refine tb_if_eq 21 11 dX12_addCourse_8 (by decide) rfl (fun c8 => ?_) (fun c8 => ?_)
  · skip
    refine tj_iconst 22 dX12_addCourse_21 rfl ?_
    refine ev_goto 39 dX12_addCourse_22 (by decide) ?_
    refine tm_V1 42 14 dX12_addCourse_39 lkv_X12_144 (tr40 hT) rfl rfl (by first | decide | omega) (Nat.le_of_ble_eq_true rfl) (goes_n hT (by omega)) (fun h X1 hT hP39 => ?_)
    have hM1 := hM
    have hM : RM O X1 := by rw [hP39]; exact rm_th hM1 _
    have q0 := rm_nC hM
    have q2 := rm_nS hM
    refine tj_if_ne 47 45 dX12_addCourse_42 (by decide) rfl (by first | exact TR.rng hT _ _ _ | exact R31_of _ | exact bi_R _ | (constructor <;> omega)) (fun c42 => ?_) (fun c42 => ?_)
    · exact False.elim (by omega)
    · skip
      refine tj_iconst 46 dX12_addCourse_45 rfl ?_
      exact ev_ireturn (uq_i (by first | rfl | omega | exact bi_dt (by omega) | exact bi_df (by omega) | (skip)) hT (by assumption)) rfl dX12_addCourse_46
  · skip
    refine ev_ild2 12 dX12_addCourse_11 rfl ?_
    refine tj_iconst 13 dX12_addCourse_12 rfl ?_
    refine tj_bipush 15 dX12_addCourse_13 (by decide) rfl ?_
    refine tc_S3 18 dX12_addCourse_15 lks_X12_96 rfl (by first | decide | omega) (Nat.le_of_ble_eq_true rfl) (c_X12_in (by first | exact TR.rng hT _ _ _ | exact R31_of _ | exact bi_R _ | (constructor <;> omega)) (by first | exact TR.rng hT _ _ _ | exact R31_of _ | exact bi_R _ | (constructor <;> omega)) (by first | exact TR.rng hT _ _ _ | exact R31_of _ | exact bi_R _ | (constructor <;> omega))) ?_
    refine tb_if_ne 25 21 dX12_addCourse_18 (by decide) rfl (fun c18 => ?_) (fun c18 => ?_)
    · exact False.elim (hm.elim (fun q => q (by first | exact of_decide_eq_true c8 | exact of_decide_eq_false c8)) (fun q => q (of_decide_eq_true c18)))
    · skip
      refine tj_iconst 22 dX12_addCourse_21 rfl ?_
      refine ev_goto 39 dX12_addCourse_22 (by decide) ?_
      refine tm_V1 42 14 dX12_addCourse_39 lkv_X12_144 (tr40 hT) rfl rfl (by first | decide | omega) (Nat.le_of_ble_eq_true rfl) (goes_n hT (by omega)) (fun h X1 hT hP39 => ?_)
      have hM1 := hM
      have hM : RM O X1 := by rw [hP39]; exact rm_th hM1 _
      have q0 := rm_nC hM
      have q2 := rm_nS hM
      refine tj_if_ne 47 45 dX12_addCourse_42 (by decide) rfl (by first | exact TR.rng hT _ _ _ | exact R31_of _ | exact bi_R _ | (constructor <;> omega)) (fun c42 => ?_) (fun c42 => ?_)
      · exact False.elim (by omega)
      · skip
        refine tj_iconst 46 dX12_addCourse_45 rfl ?_
        exact ev_ireturn (uq_i (by first | rfl | omega | exact bi_dt (by omega) | exact bi_df (by omega) | (skip)) hT (by assumption)) rfl dX12_addCourse_46
set_option maxRecDepth 100000 in
set_option maxHeartbeats 4000000 in
theorem c_X12_addCourse_x2 {g : Gt} {α : AL} {ν : Nat → Nat → Bool} {X : XM} {h : AH} (hT : TR g α ν X h) {O : XM} (hO : WO O) (hM : RM O X) {a0 : Int} (ha0 : R31 a0) {a1 : Int} (ha1 : R31 a1) (h0 : 1 ≤ a0 ∧ a0 ≤ 6) (h1 : 1 ≤ a1 ∧ a1 ≤ 12) (hm : ¬ nC O < 20) : Mu g α ν M_X12_addCourse 27 [.ref (α 40 0), .int (J a0), .int (J a1)] h (some (.int (J (0)))) (fun X' => X' = xs X 40 0 0 2) := by
  refine mu_of rfl rfl (ls := [some (.ref (α 40 0)), some (.int (J a0)), some (.int (J a1))]) rfl (Nat.le_of_ble_eq_true rfl) ?_
  show Ev g M_X12_addCourse 27 0 [some (.ref (α 40 0)), some (.int (J a0)), some (.int (J a1))] [] h 0 0 (UQ g α ν (some (.int (J (0)))) (fun X' => X' = xs X 40 0 0 2))
  have q0 := rm_nC hM
  have q1 := wo_nC hO
  have q2 := rm_nS hM
  have q3 := wo_nS hO
  refine ev_ald0 1 dX12_addCourse_0 rfl ?_
  refine ev_ild1 2 dX12_addCourse_1 rfl ?_
  refine tj_iconst 3 dX12_addCourse_2 rfl ?_
  refine tj_bipush 5 dX12_addCourse_3 (by decide) rfl ?_
  refine tc_S3 8 dX12_addCourse_5 lks_X12_96 rfl (by first | decide | omega) (Nat.le_of_ble_eq_true rfl) (in_ok (by first | exact TR.rng hT _ _ _ | exact R31_of _ | exact bi_R _ | (constructor <;> omega)) (by first | exact TR.rng hT _ _ _ | exact R31_of _ | exact bi_R _ | (constructor <;> omega)) (by first | exact TR.rng hT _ _ _ | exact R31_of _ | exact bi_R _ | (constructor <;> omega)) (by omega)) ?_
  refine tj_if_eq 21 11 dX12_addCourse_8 (by decide) rfl (by first | exact TR.rng hT _ _ _ | exact R31_of _ | exact bi_R _ | (constructor <;> omega)) (fun c8 => ?_) (fun c8 => ?_)
  · exact False.elim (by omega)
  · skip
    refine ev_ild2 12 dX12_addCourse_11 rfl ?_
    refine tj_iconst 13 dX12_addCourse_12 rfl ?_
    refine tj_bipush 15 dX12_addCourse_13 (by decide) rfl ?_
    refine tc_S3 18 dX12_addCourse_15 lks_X12_96 rfl (by first | decide | omega) (Nat.le_of_ble_eq_true rfl) (in_ok (by first | exact TR.rng hT _ _ _ | exact R31_of _ | exact bi_R _ | (constructor <;> omega)) (by first | exact TR.rng hT _ _ _ | exact R31_of _ | exact bi_R _ | (constructor <;> omega)) (by first | exact TR.rng hT _ _ _ | exact R31_of _ | exact bi_R _ | (constructor <;> omega)) (by omega)) ?_
    refine tj_if_ne 25 21 dX12_addCourse_18 (by decide) rfl (by first | exact TR.rng hT _ _ _ | exact R31_of _ | exact bi_R _ | (constructor <;> omega)) (fun c18 => ?_) (fun c18 => ?_)
    · skip
      refine ev_ald0 26 dX12_addCourse_25 rfl ?_
      refine ev_getfield 29 14 3 fl_X12_93_14 (tr40 hT) rfl dX12_addCourse_26 rfl ?_
      refine tj_bipush 31 dX12_addCourse_29 (by decide) rfl ?_
      refine tj_icmp_ne 38 34 dX12_addCourse_31 (by decide) rfl (by first | exact TR.rng hT _ _ _ | exact R31_of _ | exact bi_R _ | (constructor <;> omega)) (by first | exact TR.rng hT _ _ _ | exact R31_of _ | exact bi_R _ | (constructor <;> omega)) (fun c31 => ?_) (fun c31 => ?_)
      · exact False.elim (by omega)
      · skip
        refine tj_iconst 35 dX12_addCourse_34 rfl ?_
        refine ev_goto 39 dX12_addCourse_35 (by decide) ?_
        refine tm_V1 42 14 dX12_addCourse_39 lkv_X12_144 (tr40 hT) rfl rfl (by first | decide | omega) (Nat.le_of_ble_eq_true rfl) (goes_n hT (by omega)) (fun h X1 hT hP39 => ?_)
        have hM1 := hM
        have hM : RM O X1 := by rw [hP39]; exact rm_th hM1 _
        have q0 := rm_nC hM
        have q2 := rm_nS hM
        refine tj_if_ne 47 45 dX12_addCourse_42 (by decide) rfl (by first | exact TR.rng hT _ _ _ | exact R31_of _ | exact bi_R _ | (constructor <;> omega)) (fun c42 => ?_) (fun c42 => ?_)
        · exact False.elim (by omega)
        · skip
          refine tj_iconst 46 dX12_addCourse_45 rfl ?_
          exact ev_ireturn (uq_i (by first | rfl | omega | exact bi_dt (by omega) | exact bi_df (by omega) | (skip)) hT (by assumption)) rfl dX12_addCourse_46
    · exact False.elim (by omega)
set_option maxRecDepth 100000 in
set_option maxHeartbeats 4000000 in
theorem c_X12_addCourse_ok {g : Gt} {α : AL} {ν : Nat → Nat → Bool} {X : XM} {h : AH} (hT : TR g α ν X h) {O : XM} (hO : WO O) (hM : RM O X) {a0 : Int} (ha0 : R31 a0) {a1 : Int} (ha1 : R31 a1) (h0 : 1 ≤ a0 ∧ a0 ≤ 6) (h1 : 1 ≤ a1 ∧ a1 ≤ 12) (hm : nC O < 20) {n : Nat} (hn : nC O = (n : Int)) {O' : XM} (hMK : MKX O (12, n) (xC a0 a1) 0 O') : Mu g α ν M_X12_addCourse 27 [.ref (α 40 0), .int (J a0), .int (J a1)] h (some (.int (J (nC O)))) (fun X' => RM O' X' ∧ CZ X X' 0) := by
  refine mu_of rfl rfl (ls := [some (.ref (α 40 0)), some (.int (J a0)), some (.int (J a1))]) rfl (Nat.le_of_ble_eq_true rfl) ?_
  show Ev g M_X12_addCourse 27 0 [some (.ref (α 40 0)), some (.int (J a0)), some (.int (J a1))] [] h 0 0 (UQ g α ν (some (.int (J (nC O)))) (fun X' => RM O' X' ∧ CZ X X' 0))
  have q0 := rm_nC hM
  have q1 := wo_nC hO
  have q2 := rm_nS hM
  have q3 := wo_nS hO
  refine ev_ald0 1 dX12_addCourse_0 rfl ?_
  refine ev_ild1 2 dX12_addCourse_1 rfl ?_
  refine tj_iconst 3 dX12_addCourse_2 rfl ?_
  refine tj_bipush 5 dX12_addCourse_3 (by decide) rfl ?_
  refine tc_S3 8 dX12_addCourse_5 lks_X12_96 rfl (by first | decide | omega) (Nat.le_of_ble_eq_true rfl) (in_ok (by first | exact TR.rng hT _ _ _ | exact R31_of _ | exact bi_R _ | (constructor <;> omega)) (by first | exact TR.rng hT _ _ _ | exact R31_of _ | exact bi_R _ | (constructor <;> omega)) (by first | exact TR.rng hT _ _ _ | exact R31_of _ | exact bi_R _ | (constructor <;> omega)) (by omega)) ?_
  refine tj_if_eq 21 11 dX12_addCourse_8 (by decide) rfl (by first | exact TR.rng hT _ _ _ | exact R31_of _ | exact bi_R _ | (constructor <;> omega)) (fun c8 => ?_) (fun c8 => ?_)
  · exact False.elim (by omega)
  · skip
    refine ev_ild2 12 dX12_addCourse_11 rfl ?_
    refine tj_iconst 13 dX12_addCourse_12 rfl ?_
    refine tj_bipush 15 dX12_addCourse_13 (by decide) rfl ?_
    refine tc_S3 18 dX12_addCourse_15 lks_X12_96 rfl (by first | decide | omega) (Nat.le_of_ble_eq_true rfl) (in_ok (by first | exact TR.rng hT _ _ _ | exact R31_of _ | exact bi_R _ | (constructor <;> omega)) (by first | exact TR.rng hT _ _ _ | exact R31_of _ | exact bi_R _ | (constructor <;> omega)) (by first | exact TR.rng hT _ _ _ | exact R31_of _ | exact bi_R _ | (constructor <;> omega)) (by omega)) ?_
    refine tj_if_ne 25 21 dX12_addCourse_18 (by decide) rfl (by first | exact TR.rng hT _ _ _ | exact R31_of _ | exact bi_R _ | (constructor <;> omega)) (fun c18 => ?_) (fun c18 => ?_)
    · skip
      refine ev_ald0 26 dX12_addCourse_25 rfl ?_
      refine ev_getfield 29 14 3 fl_X12_93_14 (tr40 hT) rfl dX12_addCourse_26 rfl ?_
      refine tj_bipush 31 dX12_addCourse_29 (by decide) rfl ?_
      refine tj_icmp_ne 38 34 dX12_addCourse_31 (by decide) rfl (by first | exact TR.rng hT _ _ _ | exact R31_of _ | exact bi_R _ | (constructor <;> omega)) (by first | exact TR.rng hT _ _ _ | exact R31_of _ | exact bi_R _ | (constructor <;> omega)) (fun c31 => ?_) (fun c31 => ?_)
      · skip
        refine tj_iconst 39 dX12_addCourse_38 rfl ?_
        refine tm_V1 42 14 dX12_addCourse_39 lkv_X12_144 (tr40 hT) rfl rfl (by first | decide | omega) (Nat.le_of_ble_eq_true rfl) (goes_0 hT) (fun h X1 hT hP39 => ?_)
        have hM1 := hM
        have hM : RM O X1 := by rw [hP39]; exact rm_th hM1 _
        have q0 := rm_nC hM
        have q2 := rm_nS hM
        refine tj_if_ne 47 45 dX12_addCourse_42 (by decide) rfl (by first | exact TR.rng hT _ _ _ | exact R31_of _ | exact bi_R _ | (constructor <;> omega)) (fun c42 => ?_) (fun c42 => ?_)
        · skip
          refine ev_ald0 48 dX12_addCourse_47 rfl ?_
          refine ev_getfield 51 14 4 fl_X12_9_14 (tr40 hT) rfl dX12_addCourse_48 rfl ?_
          refine ev_ald0 52 dX12_addCourse_51 rfl ?_
          refine ev_getfield 55 14 3 fl_X12_93_14 (tr40 hT) rfl dX12_addCourse_52 rfl ?_
          refine ev_ild1 56 dX12_addCourse_55 rfl ?_
          refine tv_iast 57 hT (tv44 hT) (fun _ => rfl) (n) (by omega) (by omega) (by omega) (by first | exact TR.rng hT _ _ _ | exact R31_of _ | exact bi_R _ | (constructor <;> omega)) dX12_addCourse_56 rfl (fun h hT => ?_)
          obtain ⟨X3, hX3⟩ : ∃ Z, Z = xs X1 44 0 n a0 := ⟨_, rfl⟩
          rw [← hX3] at hT
          have q0 : X3 40 0 3 = nC O := by rw [hX3, xs_nk (by decide)]; exact q0
          refine ev_ald0 58 dX12_addCourse_57 rfl ?_
          refine ev_getfield 61 14 5 fl_X12_13_14 (tr40 hT) rfl dX12_addCourse_58 rfl ?_
          refine ev_ald0 62 dX12_addCourse_61 rfl ?_
          refine ev_getfield 65 14 3 fl_X12_93_14 (tr40 hT) rfl dX12_addCourse_62 rfl ?_
          refine ev_ild2 66 dX12_addCourse_65 rfl ?_
          refine tv_iast 67 hT (tv45 hT) (fun _ => rfl) (n) (by omega) (by omega) (by omega) (by first | exact TR.rng hT _ _ _ | exact R31_of _ | exact bi_R _ | (constructor <;> omega)) dX12_addCourse_66 rfl (fun h hT => ?_)
          obtain ⟨X4, hX4⟩ : ∃ Z, Z = xs X3 45 0 n a1 := ⟨_, rfl⟩
          rw [← hX4] at hT
          have q0 : X4 40 0 3 = nC O := by rw [hX4, xs_nk (by decide)]; exact q0
          refine ev_ald0 68 dX12_addCourse_67 rfl ?_
          refine ev_getfield 71 14 7 fl_X12_19_14 (tr40 hT) rfl dX12_addCourse_68 rfl ?_
          refine ev_ald0 72 dX12_addCourse_71 rfl ?_
          refine ev_getfield 75 14 3 fl_X12_93_14 (tr40 hT) rfl dX12_addCourse_72 rfl ?_
          refine tj_iconst 76 dX12_addCourse_75 rfl ?_
          refine tv_iast 77 hT (tv47 hT) (fun _ => rfl) (n) (by omega) (by omega) (by omega) (by first | exact TR.rng hT _ _ _ | exact R31_of _ | exact bi_R _ | (constructor <;> omega)) dX12_addCourse_76 rfl (fun h hT => ?_)
          obtain ⟨X5, hX5⟩ : ∃ Z, Z = xs X4 47 0 n (-1) := ⟨_, rfl⟩
          rw [← hX5] at hT
          have q0 : X5 40 0 3 = nC O := by rw [hX5, xs_nk (by decide)]; exact q0
          refine ev_ald0 78 dX12_addCourse_77 rfl ?_
          refine ev_dup 79 dX12_addCourse_78 rfl rfl ?_
          refine ev_getfield 82 14 3 fl_X12_93_14 (tr40 hT) rfl dX12_addCourse_79 rfl ?_
          refine tj_iconst 83 dX12_addCourse_82 rfl ?_
          refine tj_iadd 84 dX12_addCourse_83 rfl ?_
          refine tv_puti 87 3 .int fl_X12_93_14 fp_14_3 hT (tv40 hT) (fun _ => rfl) rfl (Nat.le_of_ble_eq_true rfl) rfl rfl (by first | exact TR.rng hT _ _ _ | exact R31_of _ | exact bi_R _ | (constructor <;> omega)) dX12_addCourse_84 rfl (fun h hT => ?_)
          obtain ⟨X6, hX6⟩ : ∃ Z, Z = xs X5 40 0 3 (X5 40 0 3 + 1) := ⟨_, rfl⟩
          rw [← hX6] at hT
          refine ev_ald0 88 dX12_addCourse_87 rfl ?_
          refine ev_getfield 91 14 3 fl_X12_93_14 (tr40 hT) rfl dX12_addCourse_88 rfl ?_
          refine tj_iconst 92 dX12_addCourse_91 rfl ?_
          refine tj_isub 93 dX12_addCourse_92 rfl ?_
          exact ev_ireturn (uq_i (by first | rfl | omega | exact bi_dt (by omega) | exact bi_df (by omega) | (rw [hX6, xs_at, if_pos rfl]; omega)) hT (by exact ⟨rm_mkC (by omega) hM hO hn hMK (fun k _ _ q1 q2 q3 => by rw [hX6, xs_nk (by omega), hX5, xs_nk q3, hX4, xs_nk q2, hX3, xs_nk q1]) (fun j hj => by rw [hX6, xs_at]; by_cases q : j = 3; (rw [if_pos q, if_pos q, q0, hn]); (rw [if_neg q, if_neg q, hX5, xs_nk (by decide), hX4, xs_nk (by decide), hX3, xs_nk (by decide)])) (fun j => by rw [hX6, xs_nk (by decide), hX5, xs_nk (by decide), hX4, xs_nk (by decide), hX3, xs_at]) (fun j => by rw [hX6, xs_nk (by decide), hX5, xs_nk (by decide), hX4, xs_at, hX3, xs_nk (by decide)]) (fun j => by rw [hX6, xs_nk (by decide), hX5, xs_at, hX4, xs_nk (by decide), hX3, xs_nk (by decide)]), (by rw [hX6, hX5, hX4, hX3, hP39]; exact ((((CZ.go X 0).st (by decide)).st (by decide)).st (by decide)).x4 (by decide))⟩)) rfl dX12_addCourse_93
        · exact False.elim (by omega)
      · exact False.elim (by omega)
    · exact False.elim (by omega)
set_option maxRecDepth 100000 in
set_option maxHeartbeats 4000000 in
theorem c_X12_addStudent_x1 {g : Gt} {α : AL} {ν : Nat → Nat → Bool} {X : XM} {h : AH} (hT : TR g α ν X h) {O : XM} (hO : WO O) (hM : RM O X) {a0 : Int} (ha0 : R31 a0) (hm : ¬ (0 ≤ a0 ∧ a0 ≤ 3)) : Mu g α ν M_X12_addStudent 27 [.ref (α 40 0), .int (J a0)] h (some (.int (J (0)))) (fun X' => X' = xs X 40 0 0 1) := by
  refine mu_of rfl rfl (ls := [some (.ref (α 40 0)), some (.int (J a0))]) rfl (Nat.le_of_ble_eq_true rfl) ?_
  show Ev g M_X12_addStudent 27 0 [some (.ref (α 40 0)), some (.int (J a0))] [] h 0 0 (UQ g α ν (some (.int (J (0)))) (fun X' => X' = xs X 40 0 0 1))
  have q0 := rm_nC hM
  have q1 := wo_nC hO
  have q2 := rm_nS hM
  have q3 := wo_nS hO
  refine ev_ald0 1 dX12_addStudent_0 rfl ?_
  refine ev_ild1 2 dX12_addStudent_1 rfl ?_
  refine tj_iconst 3 dX12_addStudent_2 rfl ?_
  refine tj_iconst 4 dX12_addStudent_3 rfl ?_
  refine tc_S3 7 dX12_addStudent_4 lks_X12_96 rfl (by first | decide | omega) (Nat.le_of_ble_eq_true rfl) (in_no (by first | exact TR.rng hT _ _ _ | exact R31_of _ | exact bi_R _ | (constructor <;> omega)) (by first | exact TR.rng hT _ _ _ | exact R31_of _ | exact bi_R _ | (constructor <;> omega)) (by first | exact TR.rng hT _ _ _ | exact R31_of _ | exact bi_R _ | (constructor <;> omega)) (by omega)) ?_
  refine tj_if_ne 14 10 dX12_addStudent_7 (by decide) rfl (by first | exact TR.rng hT _ _ _ | exact R31_of _ | exact bi_R _ | (constructor <;> omega)) (fun c7 => ?_) (fun c7 => ?_)
  · exact False.elim (by omega)
  · skip
    refine tj_iconst 11 dX12_addStudent_10 rfl ?_
    refine ev_goto 28 dX12_addStudent_11 (by decide) ?_
    refine tm_V1 31 14 dX12_addStudent_28 lkv_X12_144 (tr40 hT) rfl rfl (by first | decide | omega) (Nat.le_of_ble_eq_true rfl) (goes_n hT (by omega)) (fun h X1 hT hP28 => ?_)
    have hM1 := hM
    have hM : RM O X1 := by rw [hP28]; exact rm_th hM1 _
    have q0 := rm_nC hM
    have q2 := rm_nS hM
    refine tj_if_ne 36 34 dX12_addStudent_31 (by decide) rfl (by first | exact TR.rng hT _ _ _ | exact R31_of _ | exact bi_R _ | (constructor <;> omega)) (fun c31 => ?_) (fun c31 => ?_)
    · exact False.elim (by omega)
    · skip
      refine tj_iconst 35 dX12_addStudent_34 rfl ?_
      exact ev_ireturn (uq_i (by first | rfl | omega | exact bi_dt (by omega) | exact bi_df (by omega) | (skip)) hT (by assumption)) rfl dX12_addStudent_35
set_option maxRecDepth 100000 in
set_option maxHeartbeats 4000000 in
theorem c_X12_addStudent_x2 {g : Gt} {α : AL} {ν : Nat → Nat → Bool} {X : XM} {h : AH} (hT : TR g α ν X h) {O : XM} (hO : WO O) (hM : RM O X) {a0 : Int} (ha0 : R31 a0) (h0 : 0 ≤ a0 ∧ a0 ≤ 3) (hm : ¬ nS O < 16) : Mu g α ν M_X12_addStudent 27 [.ref (α 40 0), .int (J a0)] h (some (.int (J (0)))) (fun X' => X' = xs X 40 0 0 2) := by
  refine mu_of rfl rfl (ls := [some (.ref (α 40 0)), some (.int (J a0))]) rfl (Nat.le_of_ble_eq_true rfl) ?_
  show Ev g M_X12_addStudent 27 0 [some (.ref (α 40 0)), some (.int (J a0))] [] h 0 0 (UQ g α ν (some (.int (J (0)))) (fun X' => X' = xs X 40 0 0 2))
  have q0 := rm_nC hM
  have q1 := wo_nC hO
  have q2 := rm_nS hM
  have q3 := wo_nS hO
  refine ev_ald0 1 dX12_addStudent_0 rfl ?_
  refine ev_ild1 2 dX12_addStudent_1 rfl ?_
  refine tj_iconst 3 dX12_addStudent_2 rfl ?_
  refine tj_iconst 4 dX12_addStudent_3 rfl ?_
  refine tc_S3 7 dX12_addStudent_4 lks_X12_96 rfl (by first | decide | omega) (Nat.le_of_ble_eq_true rfl) (in_ok (by first | exact TR.rng hT _ _ _ | exact R31_of _ | exact bi_R _ | (constructor <;> omega)) (by first | exact TR.rng hT _ _ _ | exact R31_of _ | exact bi_R _ | (constructor <;> omega)) (by first | exact TR.rng hT _ _ _ | exact R31_of _ | exact bi_R _ | (constructor <;> omega)) (by omega)) ?_
  refine tj_if_ne 14 10 dX12_addStudent_7 (by decide) rfl (by first | exact TR.rng hT _ _ _ | exact R31_of _ | exact bi_R _ | (constructor <;> omega)) (fun c7 => ?_) (fun c7 => ?_)
  · skip
    refine ev_ald0 15 dX12_addStudent_14 rfl ?_
    refine ev_getfield 18 14 10 fl_X12_100_14 (tr40 hT) rfl dX12_addStudent_15 rfl ?_
    refine tj_bipush 20 dX12_addStudent_18 (by decide) rfl ?_
    refine tj_icmp_ne 27 23 dX12_addStudent_20 (by decide) rfl (by first | exact TR.rng hT _ _ _ | exact R31_of _ | exact bi_R _ | (constructor <;> omega)) (by first | exact TR.rng hT _ _ _ | exact R31_of _ | exact bi_R _ | (constructor <;> omega)) (fun c20 => ?_) (fun c20 => ?_)
    · exact False.elim (by omega)
    · skip
      refine tj_iconst 24 dX12_addStudent_23 rfl ?_
      refine ev_goto 28 dX12_addStudent_24 (by decide) ?_
      refine tm_V1 31 14 dX12_addStudent_28 lkv_X12_144 (tr40 hT) rfl rfl (by first | decide | omega) (Nat.le_of_ble_eq_true rfl) (goes_n hT (by omega)) (fun h X1 hT hP28 => ?_)
      have hM1 := hM
      have hM : RM O X1 := by rw [hP28]; exact rm_th hM1 _
      have q0 := rm_nC hM
      have q2 := rm_nS hM
      refine tj_if_ne 36 34 dX12_addStudent_31 (by decide) rfl (by first | exact TR.rng hT _ _ _ | exact R31_of _ | exact bi_R _ | (constructor <;> omega)) (fun c31 => ?_) (fun c31 => ?_)
      · exact False.elim (by omega)
      · skip
        refine tj_iconst 35 dX12_addStudent_34 rfl ?_
        exact ev_ireturn (uq_i (by first | rfl | omega | exact bi_dt (by omega) | exact bi_df (by omega) | (skip)) hT (by assumption)) rfl dX12_addStudent_35
  · exact False.elim (by omega)
set_option maxRecDepth 100000 in
set_option maxHeartbeats 4000000 in
theorem c_X12_addStudent_ok {g : Gt} {α : AL} {ν : Nat → Nat → Bool} {X : XM} {h : AH} (hT : TR g α ν X h) {O : XM} (hO : WO O) (hM : RM O X) {a0 : Int} (ha0 : R31 a0) (h0 : 0 ≤ a0 ∧ a0 ≤ 3) (hm : nS O < 16) {n : Nat} (hn : nS O = (n : Int)) {O' : XM} (hMK : MKX O (4, n) (xS a0) 1 O') : Mu g α ν M_X12_addStudent 27 [.ref (α 40 0), .int (J a0)] h (some (.int (J (nS O)))) (fun X' => RM O' X' ∧ CZ X X' 0) := by
  refine mu_of rfl rfl (ls := [some (.ref (α 40 0)), some (.int (J a0))]) rfl (Nat.le_of_ble_eq_true rfl) ?_
  show Ev g M_X12_addStudent 27 0 [some (.ref (α 40 0)), some (.int (J a0))] [] h 0 0 (UQ g α ν (some (.int (J (nS O)))) (fun X' => RM O' X' ∧ CZ X X' 0))
  have q0 := rm_nC hM
  have q1 := wo_nC hO
  have q2 := rm_nS hM
  have q3 := wo_nS hO
  refine ev_ald0 1 dX12_addStudent_0 rfl ?_
  refine ev_ild1 2 dX12_addStudent_1 rfl ?_
  refine tj_iconst 3 dX12_addStudent_2 rfl ?_
  refine tj_iconst 4 dX12_addStudent_3 rfl ?_
  refine tc_S3 7 dX12_addStudent_4 lks_X12_96 rfl (by first | decide | omega) (Nat.le_of_ble_eq_true rfl) (in_ok (by first | exact TR.rng hT _ _ _ | exact R31_of _ | exact bi_R _ | (constructor <;> omega)) (by first | exact TR.rng hT _ _ _ | exact R31_of _ | exact bi_R _ | (constructor <;> omega)) (by first | exact TR.rng hT _ _ _ | exact R31_of _ | exact bi_R _ | (constructor <;> omega)) (by omega)) ?_
  refine tj_if_ne 14 10 dX12_addStudent_7 (by decide) rfl (by first | exact TR.rng hT _ _ _ | exact R31_of _ | exact bi_R _ | (constructor <;> omega)) (fun c7 => ?_) (fun c7 => ?_)
  · skip
    refine ev_ald0 15 dX12_addStudent_14 rfl ?_
    refine ev_getfield 18 14 10 fl_X12_100_14 (tr40 hT) rfl dX12_addStudent_15 rfl ?_
    refine tj_bipush 20 dX12_addStudent_18 (by decide) rfl ?_
    refine tj_icmp_ne 27 23 dX12_addStudent_20 (by decide) rfl (by first | exact TR.rng hT _ _ _ | exact R31_of _ | exact bi_R _ | (constructor <;> omega)) (by first | exact TR.rng hT _ _ _ | exact R31_of _ | exact bi_R _ | (constructor <;> omega)) (fun c20 => ?_) (fun c20 => ?_)
    · skip
      refine tj_iconst 28 dX12_addStudent_27 rfl ?_
      refine tm_V1 31 14 dX12_addStudent_28 lkv_X12_144 (tr40 hT) rfl rfl (by first | decide | omega) (Nat.le_of_ble_eq_true rfl) (goes_0 hT) (fun h X1 hT hP28 => ?_)
      have hM1 := hM
      have hM : RM O X1 := by rw [hP28]; exact rm_th hM1 _
      have q0 := rm_nC hM
      have q2 := rm_nS hM
      refine tj_if_ne 36 34 dX12_addStudent_31 (by decide) rfl (by first | exact TR.rng hT _ _ _ | exact R31_of _ | exact bi_R _ | (constructor <;> omega)) (fun c31 => ?_) (fun c31 => ?_)
      · skip
        refine ev_ald0 37 dX12_addStudent_36 rfl ?_
        refine ev_getfield 40 14 11 fl_X12_28_14 (tr40 hT) rfl dX12_addStudent_37 rfl ?_
        refine ev_ald0 41 dX12_addStudent_40 rfl ?_
        refine ev_getfield 44 14 10 fl_X12_100_14 (tr40 hT) rfl dX12_addStudent_41 rfl ?_
        refine ev_ild1 45 dX12_addStudent_44 rfl ?_
        refine tv_iast 46 hT (tv51 hT) (fun _ => rfl) (n) (by omega) (by omega) (by omega) (by first | exact TR.rng hT _ _ _ | exact R31_of _ | exact bi_R _ | (constructor <;> omega)) dX12_addStudent_45 rfl (fun h hT => ?_)
        obtain ⟨X3, hX3⟩ : ∃ Z, Z = xs X1 51 0 n a0 := ⟨_, rfl⟩
        rw [← hX3] at hT
        have q2 : X3 40 0 10 = nS O := by rw [hX3, xs_nk (by decide)]; exact q2
        refine ev_ald0 47 dX12_addStudent_46 rfl ?_
        refine ev_dup 48 dX12_addStudent_47 rfl rfl ?_
        refine ev_getfield 51 14 10 fl_X12_100_14 (tr40 hT) rfl dX12_addStudent_48 rfl ?_
        refine tj_iconst 52 dX12_addStudent_51 rfl ?_
        refine tj_iadd 53 dX12_addStudent_52 rfl ?_
        refine tv_puti 56 10 .int fl_X12_100_14 fp_14_10 hT (tv40 hT) (fun _ => rfl) rfl (Nat.le_of_ble_eq_true rfl) rfl rfl (by first | exact TR.rng hT _ _ _ | exact R31_of _ | exact bi_R _ | (constructor <;> omega)) dX12_addStudent_53 rfl (fun h hT => ?_)
        obtain ⟨X6, hX6⟩ : ∃ Z, Z = xs X3 40 0 10 (X3 40 0 10 + 1) := ⟨_, rfl⟩
        rw [← hX6] at hT
        refine ev_ald0 57 dX12_addStudent_56 rfl ?_
        refine ev_getfield 60 14 10 fl_X12_100_14 (tr40 hT) rfl dX12_addStudent_57 rfl ?_
        refine tj_iconst 61 dX12_addStudent_60 rfl ?_
        refine tj_isub 62 dX12_addStudent_61 rfl ?_
        exact ev_ireturn (uq_i (by first | rfl | omega | exact bi_dt (by omega) | exact bi_df (by omega) | (rw [hX6, xs_at, if_pos rfl]; omega)) hT (by exact ⟨rm_mkS (by omega) hM hO hn hMK (fun k _ _ q1 => by rw [hX6, xs_nk (by omega), hX3, xs_nk q1]) (fun j hj => by rw [hX6, xs_at]; by_cases q : j = 10; (rw [if_pos q, if_pos q, q2, hn]); (rw [if_neg q, if_neg q, hX3, xs_nk (by decide)])) (fun j => by rw [hX6, xs_nk (by decide), hX3, xs_at]), (by rw [hX6, hX3, hP28]; exact ((CZ.go X 0).st (by decide)).x4 (by decide))⟩)) rfl dX12_addStudent_62
      · exact False.elim (by omega)
    · exact False.elim (by omega)
  · exact False.elim (by omega)
set_option maxRecDepth 100000 in
set_option maxHeartbeats 4000000 in
theorem c_X12_rulesOf {g : Gt} {α : AL} {ν : Nat → Nat → Bool} {X : XM} {h : AH} (hT : TR g α ν X h) {O : XM} (hO : WO O) (hM : RM O X) {m : Int} (hm : R31 m) : Pr g M_X12_rulesOf 0 [.ref (α 40 0), .int (J m)] h (some (.int (J (cnt (fun r => decide (O 14 r 0 = m)) (nR O).toNat)))) := by
  refine pr_of rfl rfl (ls := [some (.ref (α 40 0)), some (.int (J m)), none, none]) rfl (Nat.le_of_ble_eq_true rfl) ?_
  show Ev g M_X12_rulesOf 0 0 [some (.ref (α 40 0)), some (.int (J m)), none, none] [] h 0 0 (PQ (some (.int (J (cnt (fun r => decide (O 14 r 0 = m)) (nR O).toNat)))) h)
  have q0 := rm_nC hM
  have q1 := wo_nC hO
  have q2 := rm_nS hM
  have q3 := wo_nS hO
  have qf := wo_nF hO
  have qr := wo_nR hO
  have qfM := rm_nF hM
  have qrM := rm_nR hM
  refine tj_iconst 1 dX12_rulesOf_0 rfl ?_
  refine ev_ist2 2 dX12_rulesOf_1 rfl (by decide) rfl ?_
  refine tj_iconst 3 dX12_rulesOf_2 rfl ?_
  refine ev_ist3 4 dX12_rulesOf_3 rfl (by decide) rfl ?_
  have lp4 : ∀ (n4 : Nat) (r : Nat) (z2 : Int) (z3 : Int) , 17 - r < n4 → ((r : Int) ≤ nR O) → z2 = cnt (fun r => decide (O 14 r 0 = m)) r → z3 = (r : Int) → Ev g M_X12_rulesOf 0 4 [some (.ref (α 40 0)), some (.int (J m)), some (.int (J z2)), some (.int (J z3))] [] h 0 0 (PQ (some (.int (J (cnt (fun r => decide (O 14 r 0 = m)) (nR O).toNat)))) h) := by
    intro n4
    induction n4 with
    | zero => intro r z2 z3 hm; exact absurd hm (Nat.not_lt_zero _)
    | succ n4 ih4 =>
      intro r z2 z3 hm4 hr e2 e3
      subst e2
      subst e3
      have qc2 := cnt_0 (fun r => decide (O 14 r 0 = m)) r
      refine ev_ild3 5 dX12_rulesOf_4 rfl ?_
      refine ev_ald0 6 dX12_rulesOf_5 rfl ?_
      refine ev_getfield 9 14 23 fl_X12_258_14 (tr40 hT) rfl dX12_rulesOf_6 rfl ?_
      refine tj_icmp_ge 36 12 dX12_rulesOf_9 (by decide) rfl (by first | exact TR.rng hT _ _ _ | exact R31_of _ | exact bi_R _ | (constructor <;> omega)) (by first | exact TR.rng hT _ _ _ | exact R31_of _ | exact bi_R _ | (constructor <;> omega)) (fun c9 => ?_) (fun c9 => ?_)
      · skip
        refine ev_ild2 37 dX12_rulesOf_36 rfl ?_
        exact ev_ireturn (pq_i (by first | rfl | omega | exact bi_dt (by omega) | exact bi_df (by omega) | (rw [show r = (nR O).toNat by omega]))) rfl dX12_rulesOf_37
      · skip
        have qru := rm_rul hM r (by omega)
        have qwu := wo_rul hO r (by omega)
        refine ev_ild2 13 dX12_rulesOf_12 rfl ?_
        refine ev_ald0 14 dX12_rulesOf_13 rfl ?_
        refine ev_getfield 17 14 24 fl_X12_61_14 (tr40 hT) rfl dX12_rulesOf_14 rfl ?_
        refine ev_ild3 18 dX12_rulesOf_17 rfl ?_
        refine tv_iald 19 (tr64 hT) (r) (by omega) (by omega) (by omega) dX12_rulesOf_18 rfl ?_
        refine ev_ild1 20 dX12_rulesOf_19 rfl ?_
        refine tj_icmp_ne 27 23 dX12_rulesOf_20 (by decide) rfl (by first | exact TR.rng hT _ _ _ | exact R31_of _ | exact bi_R _ | (constructor <;> omega)) (by first | exact TR.rng hT _ _ _ | exact R31_of _ | exact bi_R _ | (constructor <;> omega)) (fun c20 => ?_) (fun c20 => ?_)
        · skip
          refine tj_iconst 28 dX12_rulesOf_27 rfl ?_
          refine tj_iadd 29 dX12_rulesOf_28 rfl ?_
          refine ev_ist2 30 dX12_rulesOf_29 rfl (by decide) rfl ?_
          refine tj_inc3 33 dX12_rulesOf_30 rfl (by decide) rfl ?_
          refine ev_goto 4 dX12_rulesOf_33 (by decide) ?_
          exact ih4 (r + 1) _ _ (by omega) (by first | omega | assumption | omega) (by first | rfl | omega | (show _ = cnt _ r + (if decide (O 14 r 0 = m) = true then 1 else 0); first | (rw [if_pos (decide_eq_true (by omega))]) | (rw [if_neg (by rw [decide_eq_true_eq]; omega)]))) (by first | rfl | omega | (show _ = cnt _ r + (if decide (O 14 r 0 = m) = true then 1 else 0); first | (rw [if_pos (decide_eq_true (by omega))]) | (rw [if_neg (by rw [decide_eq_true_eq]; omega)])))
        · skip
          refine tj_iconst 24 dX12_rulesOf_23 rfl ?_
          refine ev_goto 28 dX12_rulesOf_24 (by decide) ?_
          refine tj_iadd 29 dX12_rulesOf_28 rfl ?_
          refine ev_ist2 30 dX12_rulesOf_29 rfl (by decide) rfl ?_
          refine tj_inc3 33 dX12_rulesOf_30 rfl (by decide) rfl ?_
          refine ev_goto 4 dX12_rulesOf_33 (by decide) ?_
          exact ih4 (r + 1) _ _ (by omega) (by first | omega | assumption | omega) (by first | rfl | omega | (show _ = cnt _ r + (if decide (O 14 r 0 = m) = true then 1 else 0); first | (rw [if_pos (decide_eq_true (by omega))]) | (rw [if_neg (by rw [decide_eq_true_eq]; omega)]))) (by first | rfl | omega | (show _ = cnt _ r + (if decide (O 14 r 0 = m) = true then 1 else 0); first | (rw [if_pos (decide_eq_true (by omega))]) | (rw [if_neg (by rw [decide_eq_true_eq]; omega)])))
  exact lp4 _ (0) _ _ (Nat.lt_succ_self _) (by first | omega | assumption | omega) (by first | rfl | omega | (show _ = cnt _ r + (if decide (O 14 r 0 = m) = true then 1 else 0); first | (rw [if_pos (decide_eq_true (by omega))]) | (rw [if_neg (by rw [decide_eq_true_eq]; omega)]))) (by first | rfl | omega | (show _ = cnt _ r + (if decide (O 14 r 0 = m) = true then 1 else 0); first | (rw [if_pos (decide_eq_true (by omega))]) | (rw [if_neg (by rw [decide_eq_true_eq]; omega)])))
set_option maxRecDepth 100000 in
set_option maxHeartbeats 4000000 in
theorem c_X12_addRule_x1 {g : Gt} {α : AL} {ν : Nat → Nat → Bool} {X : XM} {h : AH} (hT : TR g α ν X h) {O : XM} (hO : WO O) (hM : RM O X) {a0 : Int} (ha0 : R31 a0) {a1 : Int} (ha1 : R31 a1) {a2 : Int} (ha2 : R31 a2) (hm : ¬ (0 ≤ a0 ∧ a0 ≤ 3) ∨ ¬ (1 ≤ a1 ∧ a1 ≤ 3) ∨ ¬ (0 ≤ a2 ∧ a2 ≤ 100)) : Mu g α ν M_X12_addRule 27 [.ref (α 40 0), .int (J a0), .int (J a1), .int (J a2)] h (some (.int (J (0)))) (fun X' => X' = xs X 40 0 0 1) := by
  refine mu_of rfl rfl (ls := [some (.ref (α 40 0)), some (.int (J a0)), some (.int (J a1)), some (.int (J a2)), none]) rfl (Nat.le_of_ble_eq_true rfl) ?_
  show Ev g M_X12_addRule 27 0 [some (.ref (α 40 0)), some (.int (J a0)), some (.int (J a1)), some (.int (J a2)), none] [] h 0 0 (UQ g α ν (some (.int (J (0)))) (fun X' => X' = xs X 40 0 0 1))
  have q0 := rm_nC hM
  have q1 := wo_nC hO
  have q2 := rm_nS hM
  have q3 := wo_nS hO
  refine ev_ild1 1 dX12_addRule_0 rfl ?_
  refine tj_iconst 2 dX12_addRule_1 rfl ?_
  refine tj_iconst 3 dX12_addRule_2 rfl ?_
  refine tc_S3 6 dX12_addRule_3 lks_X12_96 rfl (by first | decide | omega) (Nat.le_of_ble_eq_true rfl) (c_X12_in (by first | exact TR.rng hT _ _ _ | exact R31_of _ | exact bi_R _ | (constructor <;> omega)) (by first | exact TR.rng hT _ _ _ | exact R31_of _ | exact bi_R _ | (constructor <;> omega)) (by first | exact TR.rng hT _ _ _ | exact R31_of _ | exact bi_R _ | (constructor <;> omega))) ?_
  refine tb_if_eq 28 9 dX12_addRule_6 (by decide) rfl (fun c6 => ?_) (fun c6 => ?_)
  · skip
    refine tj_iconst 29 dX12_addRule_28 rfl ?_
    refine ev_goto 46 dX12_addRule_29 (by decide) ?_
    refine ev_ist4 48 dX12_addRule_46 rfl (by decide) rfl ?_
    refine ev_ald0 49 dX12_addRule_48 rfl ?_
    refine ev_ild4 51 dX12_addRule_49 rfl ?_
    refine tm_V1 54 14 dX12_addRule_51 lkv_X12_144 (tr40 hT) rfl rfl (by first | decide | omega) (Nat.le_of_ble_eq_true rfl) (goes_n hT (by omega)) (fun h X1 hT hP51 => ?_)
    have hM1 := hM
    have hM : RM O X1 := by rw [hP51]; exact rm_th hM1 _
    have q0 := rm_nC hM
    have q2 := rm_nS hM
    refine tj_if_ne 59 57 dX12_addRule_54 (by decide) rfl (by first | exact TR.rng hT _ _ _ | exact R31_of _ | exact bi_R _ | (constructor <;> omega)) (fun c54 => ?_) (fun c54 => ?_)
    · exact False.elim (by omega)
    · skip
      refine tj_iconst 58 dX12_addRule_57 rfl ?_
      exact ev_ireturn (uq_i (by first | rfl | omega | exact bi_dt (by omega) | exact bi_df (by omega) | (skip)) hT (by assumption)) rfl dX12_addRule_58
  · skip
    refine ev_ild2 10 dX12_addRule_9 rfl ?_
    refine tj_iconst 11 dX12_addRule_10 rfl ?_
    refine tj_iconst 12 dX12_addRule_11 rfl ?_
    refine tc_S3 15 dX12_addRule_12 lks_X12_96 rfl (by first | decide | omega) (Nat.le_of_ble_eq_true rfl) (c_X12_in (by first | exact TR.rng hT _ _ _ | exact R31_of _ | exact bi_R _ | (constructor <;> omega)) (by first | exact TR.rng hT _ _ _ | exact R31_of _ | exact bi_R _ | (constructor <;> omega)) (by first | exact TR.rng hT _ _ _ | exact R31_of _ | exact bi_R _ | (constructor <;> omega))) ?_
    refine tb_if_eq 28 18 dX12_addRule_15 (by decide) rfl (fun c15 => ?_) (fun c15 => ?_)
    · skip
      refine tj_iconst 29 dX12_addRule_28 rfl ?_
      refine ev_goto 46 dX12_addRule_29 (by decide) ?_
      refine ev_ist4 48 dX12_addRule_46 rfl (by decide) rfl ?_
      refine ev_ald0 49 dX12_addRule_48 rfl ?_
      refine ev_ild4 51 dX12_addRule_49 rfl ?_
      refine tm_V1 54 14 dX12_addRule_51 lkv_X12_144 (tr40 hT) rfl rfl (by first | decide | omega) (Nat.le_of_ble_eq_true rfl) (goes_n hT (by omega)) (fun h X1 hT hP51 => ?_)
      have hM1 := hM
      have hM : RM O X1 := by rw [hP51]; exact rm_th hM1 _
      have q0 := rm_nC hM
      have q2 := rm_nS hM
      refine tj_if_ne 59 57 dX12_addRule_54 (by decide) rfl (by first | exact TR.rng hT _ _ _ | exact R31_of _ | exact bi_R _ | (constructor <;> omega)) (fun c54 => ?_) (fun c54 => ?_)
      · exact False.elim (by omega)
      · skip
        refine tj_iconst 58 dX12_addRule_57 rfl ?_
        exact ev_ireturn (uq_i (by first | rfl | omega | exact bi_dt (by omega) | exact bi_df (by omega) | (skip)) hT (by assumption)) rfl dX12_addRule_58
    · skip
      refine ev_ild3 19 dX12_addRule_18 rfl ?_
      refine tj_iconst 20 dX12_addRule_19 rfl ?_
      refine tj_bipush 22 dX12_addRule_20 (by decide) rfl ?_
      refine tc_S3 25 dX12_addRule_22 lks_X12_96 rfl (by first | decide | omega) (Nat.le_of_ble_eq_true rfl) (c_X12_in (by first | exact TR.rng hT _ _ _ | exact R31_of _ | exact bi_R _ | (constructor <;> omega)) (by first | exact TR.rng hT _ _ _ | exact R31_of _ | exact bi_R _ | (constructor <;> omega)) (by first | exact TR.rng hT _ _ _ | exact R31_of _ | exact bi_R _ | (constructor <;> omega))) ?_
      refine tb_if_ne 32 28 dX12_addRule_25 (by decide) rfl (fun c25 => ?_) (fun c25 => ?_)
      · exact False.elim (hm.elim (fun q => q (of_decide_eq_true c6)) (fun z => z.elim (fun q => q (of_decide_eq_true c15)) (fun q => q (of_decide_eq_true c25))))
      · skip
        refine tj_iconst 29 dX12_addRule_28 rfl ?_
        refine ev_goto 46 dX12_addRule_29 (by decide) ?_
        refine ev_ist4 48 dX12_addRule_46 rfl (by decide) rfl ?_
        refine ev_ald0 49 dX12_addRule_48 rfl ?_
        refine ev_ild4 51 dX12_addRule_49 rfl ?_
        refine tm_V1 54 14 dX12_addRule_51 lkv_X12_144 (tr40 hT) rfl rfl (by first | decide | omega) (Nat.le_of_ble_eq_true rfl) (goes_n hT (by omega)) (fun h X1 hT hP51 => ?_)
        have hM1 := hM
        have hM : RM O X1 := by rw [hP51]; exact rm_th hM1 _
        have q0 := rm_nC hM
        have q2 := rm_nS hM
        refine tj_if_ne 59 57 dX12_addRule_54 (by decide) rfl (by first | exact TR.rng hT _ _ _ | exact R31_of _ | exact bi_R _ | (constructor <;> omega)) (fun c54 => ?_) (fun c54 => ?_)
        · exact False.elim (by omega)
        · skip
          refine tj_iconst 58 dX12_addRule_57 rfl ?_
          exact ev_ireturn (uq_i (by first | rfl | omega | exact bi_dt (by omega) | exact bi_df (by omega) | (skip)) hT (by assumption)) rfl dX12_addRule_58
set_option maxRecDepth 100000 in
set_option maxHeartbeats 4000000 in
theorem c_X12_addRule_x2 {g : Gt} {α : AL} {ν : Nat → Nat → Bool} {X : XM} {h : AH} (hT : TR g α ν X h) {O : XM} (hO : WO O) (hM : RM O X) {a0 : Int} (ha0 : R31 a0) {a1 : Int} (ha1 : R31 a1) {a2 : Int} (ha2 : R31 a2) (h0 : 0 ≤ a0 ∧ a0 ≤ 3) (h1 : 1 ≤ a1 ∧ a1 ≤ 3) (h2 : 0 ≤ a2 ∧ a2 ≤ 100) (hm : ¬ cnt (fun r => decide (O 14 r 0 = a0)) (nR O).toNat < 4) : Mu g α ν M_X12_addRule 27 [.ref (α 40 0), .int (J a0), .int (J a1), .int (J a2)] h (some (.int (J (0)))) (fun X' => X' = xs X 40 0 0 2) := by
  refine mu_of rfl rfl (ls := [some (.ref (α 40 0)), some (.int (J a0)), some (.int (J a1)), some (.int (J a2)), none]) rfl (Nat.le_of_ble_eq_true rfl) ?_
  show Ev g M_X12_addRule 27 0 [some (.ref (α 40 0)), some (.int (J a0)), some (.int (J a1)), some (.int (J a2)), none] [] h 0 0 (UQ g α ν (some (.int (J (0)))) (fun X' => X' = xs X 40 0 0 2))
  have q0 := rm_nC hM
  have q1 := wo_nC hO
  have q2 := rm_nS hM
  have q3 := wo_nS hO
  have qf := wo_nF hO
  have qr := wo_nR hO
  have qfM := rm_nF hM
  have qrM := rm_nR hM
  have qc2 := cnt_0 (fun r => decide (O 14 r 0 = a0)) (nR O).toNat
  have qc3 := wo_rm4 hO a0
  refine ev_ild1 1 dX12_addRule_0 rfl ?_
  refine tj_iconst 2 dX12_addRule_1 rfl ?_
  refine tj_iconst 3 dX12_addRule_2 rfl ?_
  refine tc_S3 6 dX12_addRule_3 lks_X12_96 rfl (by first | decide | omega) (Nat.le_of_ble_eq_true rfl) (in_ok (by first | exact TR.rng hT _ _ _ | exact R31_of _ | exact bi_R _ | (constructor <;> omega)) (by first | exact TR.rng hT _ _ _ | exact R31_of _ | exact bi_R _ | (constructor <;> omega)) (by first | exact TR.rng hT _ _ _ | exact R31_of _ | exact bi_R _ | (constructor <;> omega)) (by omega)) ?_
  refine tj_if_eq 28 9 dX12_addRule_6 (by decide) rfl (by first | exact TR.rng hT _ _ _ | exact R31_of _ | exact bi_R _ | (constructor <;> omega)) (fun c6 => ?_) (fun c6 => ?_)
  · exact False.elim (by omega)
  · skip
    refine ev_ild2 10 dX12_addRule_9 rfl ?_
    refine tj_iconst 11 dX12_addRule_10 rfl ?_
    refine tj_iconst 12 dX12_addRule_11 rfl ?_
    refine tc_S3 15 dX12_addRule_12 lks_X12_96 rfl (by first | decide | omega) (Nat.le_of_ble_eq_true rfl) (in_ok (by first | exact TR.rng hT _ _ _ | exact R31_of _ | exact bi_R _ | (constructor <;> omega)) (by first | exact TR.rng hT _ _ _ | exact R31_of _ | exact bi_R _ | (constructor <;> omega)) (by first | exact TR.rng hT _ _ _ | exact R31_of _ | exact bi_R _ | (constructor <;> omega)) (by omega)) ?_
    refine tj_if_eq 28 18 dX12_addRule_15 (by decide) rfl (by first | exact TR.rng hT _ _ _ | exact R31_of _ | exact bi_R _ | (constructor <;> omega)) (fun c15 => ?_) (fun c15 => ?_)
    · exact False.elim (by omega)
    · skip
      refine ev_ild3 19 dX12_addRule_18 rfl ?_
      refine tj_iconst 20 dX12_addRule_19 rfl ?_
      refine tj_bipush 22 dX12_addRule_20 (by decide) rfl ?_
      refine tc_S3 25 dX12_addRule_22 lks_X12_96 rfl (by first | decide | omega) (Nat.le_of_ble_eq_true rfl) (in_ok (by first | exact TR.rng hT _ _ _ | exact R31_of _ | exact bi_R _ | (constructor <;> omega)) (by first | exact TR.rng hT _ _ _ | exact R31_of _ | exact bi_R _ | (constructor <;> omega)) (by first | exact TR.rng hT _ _ _ | exact R31_of _ | exact bi_R _ | (constructor <;> omega)) (by omega)) ?_
      refine tj_if_ne 32 28 dX12_addRule_25 (by decide) rfl (by first | exact TR.rng hT _ _ _ | exact R31_of _ | exact bi_R _ | (constructor <;> omega)) (fun c25 => ?_) (fun c25 => ?_)
      · skip
        refine ev_ald0 33 dX12_addRule_32 rfl ?_
        refine ev_ild1 34 dX12_addRule_33 rfl ?_
        refine tc_V1 37 14 dX12_addRule_34 lkv_X12_261 (tr40 hT) rfl rfl (by first | decide | omega) (Nat.le_of_ble_eq_true rfl) (c_X12_rulesOf hT hO hM (by first | exact TR.rng hT _ _ _ | exact R31_of _ | exact bi_R _ | (constructor <;> omega))) ?_
        refine tj_iconst 38 dX12_addRule_37 rfl ?_
        refine tj_icmp_ne 45 41 dX12_addRule_38 (by decide) rfl (by first | exact TR.rng hT _ _ _ | exact R31_of _ | exact bi_R _ | (constructor <;> omega)) (by first | exact TR.rng hT _ _ _ | exact R31_of _ | exact bi_R _ | (constructor <;> omega)) (fun c38 => ?_) (fun c38 => ?_)
        · exact False.elim (by omega)
        · skip
          refine tj_iconst 42 dX12_addRule_41 rfl ?_
          refine ev_goto 46 dX12_addRule_42 (by decide) ?_
          refine ev_ist4 48 dX12_addRule_46 rfl (by decide) rfl ?_
          refine ev_ald0 49 dX12_addRule_48 rfl ?_
          refine ev_ild4 51 dX12_addRule_49 rfl ?_
          refine tm_V1 54 14 dX12_addRule_51 lkv_X12_144 (tr40 hT) rfl rfl (by first | decide | omega) (Nat.le_of_ble_eq_true rfl) (goes_n hT (by omega)) (fun h X1 hT hP51 => ?_)
          have hM1 := hM
          have hM : RM O X1 := by rw [hP51]; exact rm_th hM1 _
          have q0 := rm_nC hM
          have q2 := rm_nS hM
          refine tj_if_ne 59 57 dX12_addRule_54 (by decide) rfl (by first | exact TR.rng hT _ _ _ | exact R31_of _ | exact bi_R _ | (constructor <;> omega)) (fun c54 => ?_) (fun c54 => ?_)
          · exact False.elim (by omega)
          · skip
            refine tj_iconst 58 dX12_addRule_57 rfl ?_
            exact ev_ireturn (uq_i (by first | rfl | omega | exact bi_dt (by omega) | exact bi_df (by omega) | (skip)) hT (by assumption)) rfl dX12_addRule_58
      · exact False.elim (by omega)
set_option maxRecDepth 100000 in
set_option maxHeartbeats 4000000 in
theorem c_X12_addRule_ok {g : Gt} {α : AL} {ν : Nat → Nat → Bool} {X : XM} {h : AH} (hT : TR g α ν X h) {O : XM} (hO : WO O) (hM : RM O X) {a0 : Int} (ha0 : R31 a0) {a1 : Int} (ha1 : R31 a1) {a2 : Int} (ha2 : R31 a2) (h0 : 0 ≤ a0 ∧ a0 ≤ 3) (h1 : 1 ≤ a1 ∧ a1 ≤ 3) (h2 : 0 ≤ a2 ∧ a2 ≤ 100) (hm : cnt (fun r => decide (O 14 r 0 = a0)) (nR O).toNat < 4) (h16 : nR O < 16) {n : Nat} (hn : nR O = (n : Int)) {O' : XM} (hMK : MKX O (14, n) (xR a0 a1 a2) 3 O') : Mu g α ν M_X12_addRule 27 [.ref (α 40 0), .int (J a0), .int (J a1), .int (J a2)] h (some (.int (J (nR O)))) (fun X' => RM O' X' ∧ CZ X X' 0) := by
  refine mu_of rfl rfl (ls := [some (.ref (α 40 0)), some (.int (J a0)), some (.int (J a1)), some (.int (J a2)), none]) rfl (Nat.le_of_ble_eq_true rfl) ?_
  show Ev g M_X12_addRule 27 0 [some (.ref (α 40 0)), some (.int (J a0)), some (.int (J a1)), some (.int (J a2)), none] [] h 0 0 (UQ g α ν (some (.int (J (nR O)))) (fun X' => RM O' X' ∧ CZ X X' 0))
  have q0 := rm_nC hM
  have q1 := wo_nC hO
  have q2 := rm_nS hM
  have q3 := wo_nS hO
  have qf := wo_nF hO
  have qr := wo_nR hO
  have qfM := rm_nF hM
  have qrM := rm_nR hM
  have qc2 := cnt_0 (fun r => decide (O 14 r 0 = a0)) (nR O).toNat
  have qc3 := wo_rm4 hO a0
  refine ev_ild1 1 dX12_addRule_0 rfl ?_
  refine tj_iconst 2 dX12_addRule_1 rfl ?_
  refine tj_iconst 3 dX12_addRule_2 rfl ?_
  refine tc_S3 6 dX12_addRule_3 lks_X12_96 rfl (by first | decide | omega) (Nat.le_of_ble_eq_true rfl) (in_ok (by first | exact TR.rng hT _ _ _ | exact R31_of _ | exact bi_R _ | (constructor <;> omega)) (by first | exact TR.rng hT _ _ _ | exact R31_of _ | exact bi_R _ | (constructor <;> omega)) (by first | exact TR.rng hT _ _ _ | exact R31_of _ | exact bi_R _ | (constructor <;> omega)) (by omega)) ?_
  refine tj_if_eq 28 9 dX12_addRule_6 (by decide) rfl (by first | exact TR.rng hT _ _ _ | exact R31_of _ | exact bi_R _ | (constructor <;> omega)) (fun c6 => ?_) (fun c6 => ?_)
  · exact False.elim (by omega)
  · skip
    refine ev_ild2 10 dX12_addRule_9 rfl ?_
    refine tj_iconst 11 dX12_addRule_10 rfl ?_
    refine tj_iconst 12 dX12_addRule_11 rfl ?_
    refine tc_S3 15 dX12_addRule_12 lks_X12_96 rfl (by first | decide | omega) (Nat.le_of_ble_eq_true rfl) (in_ok (by first | exact TR.rng hT _ _ _ | exact R31_of _ | exact bi_R _ | (constructor <;> omega)) (by first | exact TR.rng hT _ _ _ | exact R31_of _ | exact bi_R _ | (constructor <;> omega)) (by first | exact TR.rng hT _ _ _ | exact R31_of _ | exact bi_R _ | (constructor <;> omega)) (by omega)) ?_
    refine tj_if_eq 28 18 dX12_addRule_15 (by decide) rfl (by first | exact TR.rng hT _ _ _ | exact R31_of _ | exact bi_R _ | (constructor <;> omega)) (fun c15 => ?_) (fun c15 => ?_)
    · exact False.elim (by omega)
    · skip
      refine ev_ild3 19 dX12_addRule_18 rfl ?_
      refine tj_iconst 20 dX12_addRule_19 rfl ?_
      refine tj_bipush 22 dX12_addRule_20 (by decide) rfl ?_
      refine tc_S3 25 dX12_addRule_22 lks_X12_96 rfl (by first | decide | omega) (Nat.le_of_ble_eq_true rfl) (in_ok (by first | exact TR.rng hT _ _ _ | exact R31_of _ | exact bi_R _ | (constructor <;> omega)) (by first | exact TR.rng hT _ _ _ | exact R31_of _ | exact bi_R _ | (constructor <;> omega)) (by first | exact TR.rng hT _ _ _ | exact R31_of _ | exact bi_R _ | (constructor <;> omega)) (by omega)) ?_
      refine tj_if_ne 32 28 dX12_addRule_25 (by decide) rfl (by first | exact TR.rng hT _ _ _ | exact R31_of _ | exact bi_R _ | (constructor <;> omega)) (fun c25 => ?_) (fun c25 => ?_)
      · skip
        refine ev_ald0 33 dX12_addRule_32 rfl ?_
        refine ev_ild1 34 dX12_addRule_33 rfl ?_
        refine tc_V1 37 14 dX12_addRule_34 lkv_X12_261 (tr40 hT) rfl rfl (by first | decide | omega) (Nat.le_of_ble_eq_true rfl) (c_X12_rulesOf hT hO hM (by first | exact TR.rng hT _ _ _ | exact R31_of _ | exact bi_R _ | (constructor <;> omega))) ?_
        refine tj_iconst 38 dX12_addRule_37 rfl ?_
        refine tj_icmp_ne 45 41 dX12_addRule_38 (by decide) rfl (by first | exact TR.rng hT _ _ _ | exact R31_of _ | exact bi_R _ | (constructor <;> omega)) (by first | exact TR.rng hT _ _ _ | exact R31_of _ | exact bi_R _ | (constructor <;> omega)) (fun c38 => ?_) (fun c38 => ?_)
        · skip
          refine tj_iconst 46 dX12_addRule_45 rfl ?_
          refine ev_ist4 48 dX12_addRule_46 rfl (by decide) rfl ?_
          refine ev_ald0 49 dX12_addRule_48 rfl ?_
          refine ev_ild4 51 dX12_addRule_49 rfl ?_
          refine tm_V1 54 14 dX12_addRule_51 lkv_X12_144 (tr40 hT) rfl rfl (by first | decide | omega) (Nat.le_of_ble_eq_true rfl) (goes_0 hT) (fun h X1 hT hP51 => ?_)
          have hM1 := hM
          have hM : RM O X1 := by rw [hP51]; exact rm_th hM1 _
          have q0 := rm_nC hM
          have q2 := rm_nS hM
          refine tj_if_ne 59 57 dX12_addRule_54 (by decide) rfl (by first | exact TR.rng hT _ _ _ | exact R31_of _ | exact bi_R _ | (constructor <;> omega)) (fun c54 => ?_) (fun c54 => ?_)
          · skip
            have q23 := rm_nR hM
            refine ev_ald0 60 dX12_addRule_59 rfl ?_
            refine ev_getfield 63 14 24 fl_X12_61_14 (tr40 hT) rfl dX12_addRule_60 rfl ?_
            refine ev_ald0 64 dX12_addRule_63 rfl ?_
            refine ev_getfield 67 14 23 fl_X12_258_14 (tr40 hT) rfl dX12_addRule_64 rfl ?_
            refine ev_ild1 68 dX12_addRule_67 rfl ?_
            refine tv_iast 69 hT (tv64 hT) (fun _ => rfl) (n) (by omega) (by omega) (by omega) (by first | exact TR.rng hT _ _ _ | exact R31_of _ | exact bi_R _ | (constructor <;> omega)) dX12_addRule_68 rfl (fun h hT => ?_)
            obtain ⟨X3, hX3⟩ : ∃ Z, Z = xs X1 64 0 n a0 := ⟨_, rfl⟩
            rw [← hX3] at hT
            have q23 : X3 40 0 23 = nR O := by rw [hX3, xs_nk (by decide)]; exact q23
            refine ev_ald0 70 dX12_addRule_69 rfl ?_
            refine ev_getfield 73 14 25 fl_X12_64_14 (tr40 hT) rfl dX12_addRule_70 rfl ?_
            refine ev_ald0 74 dX12_addRule_73 rfl ?_
            refine ev_getfield 77 14 23 fl_X12_258_14 (tr40 hT) rfl dX12_addRule_74 rfl ?_
            refine ev_ild2 78 dX12_addRule_77 rfl ?_
            refine tv_iast 79 hT (tv65 hT) (fun _ => rfl) (n) (by omega) (by omega) (by omega) (by first | exact TR.rng hT _ _ _ | exact R31_of _ | exact bi_R _ | (constructor <;> omega)) dX12_addRule_78 rfl (fun h hT => ?_)
            obtain ⟨X4, hX4⟩ : ∃ Z, Z = xs X3 65 0 n a1 := ⟨_, rfl⟩
            rw [← hX4] at hT
            have q23 : X4 40 0 23 = nR O := by rw [hX4, xs_nk (by decide)]; exact q23
            refine ev_ald0 80 dX12_addRule_79 rfl ?_
            refine ev_getfield 83 14 26 fl_X12_67_14 (tr40 hT) rfl dX12_addRule_80 rfl ?_
            refine ev_ald0 84 dX12_addRule_83 rfl ?_
            refine ev_getfield 87 14 23 fl_X12_258_14 (tr40 hT) rfl dX12_addRule_84 rfl ?_
            refine ev_ild3 88 dX12_addRule_87 rfl ?_
            refine tv_iast 89 hT (tv66 hT) (fun _ => rfl) (n) (by omega) (by omega) (by omega) (by first | exact TR.rng hT _ _ _ | exact R31_of _ | exact bi_R _ | (constructor <;> omega)) dX12_addRule_88 rfl (fun h hT => ?_)
            obtain ⟨X5, hX5⟩ : ∃ Z, Z = xs X4 66 0 n a2 := ⟨_, rfl⟩
            rw [← hX5] at hT
            have q23 : X5 40 0 23 = nR O := by rw [hX5, xs_nk (by decide)]; exact q23
            refine ev_ald0 90 dX12_addRule_89 rfl ?_
            refine ev_getfield 93 14 27 fl_X12_70_14 (tr40 hT) rfl dX12_addRule_90 rfl ?_
            refine ev_ald0 94 dX12_addRule_93 rfl ?_
            refine ev_getfield 97 14 23 fl_X12_258_14 (tr40 hT) rfl dX12_addRule_94 rfl ?_
            refine tj_iconst 98 dX12_addRule_97 rfl ?_
            refine tv_iast 99 hT (tv67 hT) (fun _ => rfl) (n) (by omega) (by omega) (by omega) (by first | exact TR.rng hT _ _ _ | exact R31_of _ | exact bi_R _ | (constructor <;> omega)) dX12_addRule_98 rfl (fun h hT => ?_)
            obtain ⟨X7, hX7⟩ : ∃ Z, Z = xs X5 67 0 n 0 := ⟨_, rfl⟩
            rw [← hX7] at hT
            have q23 : X7 40 0 23 = nR O := by rw [hX7, xs_nk (by decide)]; exact q23
            refine ev_ald0 100 dX12_addRule_99 rfl ?_
            refine ev_dup 101 dX12_addRule_100 rfl rfl ?_
            refine ev_getfield 104 14 23 fl_X12_258_14 (tr40 hT) rfl dX12_addRule_101 rfl ?_
            refine tj_iconst 105 dX12_addRule_104 rfl ?_
            refine tj_iadd 106 dX12_addRule_105 rfl ?_
            refine tv_puti 109 23 .int fl_X12_258_14 fp_14_23 hT (tv40 hT) (fun _ => rfl) rfl (Nat.le_of_ble_eq_true rfl) rfl rfl (by first | exact TR.rng hT _ _ _ | exact R31_of _ | exact bi_R _ | (constructor <;> omega)) dX12_addRule_106 rfl (fun h hT => ?_)
            obtain ⟨X6, hX6⟩ : ∃ Z, Z = xs X7 40 0 23 (X7 40 0 23 + 1) := ⟨_, rfl⟩
            rw [← hX6] at hT
            refine ev_ald0 110 dX12_addRule_109 rfl ?_
            refine ev_getfield 113 14 23 fl_X12_258_14 (tr40 hT) rfl dX12_addRule_110 rfl ?_
            refine tj_iconst 114 dX12_addRule_113 rfl ?_
            refine tj_isub 115 dX12_addRule_114 rfl ?_
            exact ev_ireturn (uq_i (by first | rfl | omega | exact bi_dt (by omega) | exact bi_df (by omega) | (rw [hX6, xs_at, if_pos rfl]; omega)) hT (by exact ⟨rm_mkR hM hO hn hMK (fun k _ _ q1 q2 q3 q4 => by rw [hX6, xs_nk (by omega), hX7, xs_nk q4, hX5, xs_nk q3, hX4, xs_nk q2, hX3, xs_nk q1]) (fun j hj => by rw [hX6, xs_at]; by_cases q : j = 23; (rw [if_pos q, if_pos q, q23, hn]); (rw [if_neg q, if_neg q, hX7, xs_nk (by decide), hX5, xs_nk (by decide), hX4, xs_nk (by decide), hX3, xs_nk (by decide)])) (fun j => by rw [hX6, xs_nk (by decide), hX7, xs_nk (by decide), hX5, xs_nk (by decide), hX4, xs_nk (by decide), hX3, xs_at]) (fun j => by rw [hX6, xs_nk (by decide), hX7, xs_nk (by decide), hX5, xs_nk (by decide), hX4, xs_at, hX3, xs_nk (by decide)]) (fun j => by rw [hX6, xs_nk (by decide), hX7, xs_nk (by decide), hX5, xs_at, hX4, xs_nk (by decide), hX3, xs_nk (by decide)]) (fun j => by rw [hX6, xs_nk (by decide), hX7, xs_at, hX5, xs_nk (by decide), hX4, xs_nk (by decide), hX3, xs_nk (by decide)]), (by rw [hX6, hX7, hX5, hX4, hX3, hP51]; exact (((((CZ.go X 0).st (by decide)).st (by decide)).st (by decide)).st (by decide)).x4 (by decide))⟩)) rfl dX12_addRule_115
          · exact False.elim (by omega)
        · exact False.elim (by omega)
      · exact False.elim (by omega)
