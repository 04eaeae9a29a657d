/-! THE REFERENCE: the calls that change one thing -/
set_option maxRecDepth 100000 in
set_option maxHeartbeats 4000000 in
theorem c_X12_changeMajor_b1 {g : Gt} {α : AL} {ν : Nat → Nat → Bool} {X : XM} {h : AH} (hT : TR g α ν X h) {O : XM} (hO : WO O) (hM : RM O X) {b : Int} (hb : R31 b) (hn : ¬ (0 ≤ b ∧ b < nS O)) {a1 : Int} (ha1 : R31 a1) : Mu g α ν M_X12_changeMajor 27 [.ref (α 40 0), .int (J b), .int (J a1)] h (some (.int (J (0)))) (fun X' => X' = xs X 40 0 0 1) := by
  refine mu_of rfl rfl (ls := [some (.ref (α 40 0)), some (.int (J b)), some (.int (J a1)), none]) rfl (Nat.le_of_ble_eq_true rfl) ?_
  show Ev g M_X12_changeMajor 27 0 [some (.ref (α 40 0)), some (.int (J b)), some (.int (J a1)), none] [] h 0 0 (UQ g α ν (some (.int (J (0)))) (fun X' => X' = xs X 40 0 0 1))
  have q0 := rm_nC hM
  have q1 := wo_nC hO
  have q2 := rm_nS hM
  have q3 := wo_nS hO
  refine ev_ald0 1 dX12_changeMajor_0 rfl ?_
  refine ev_ald0 2 dX12_changeMajor_1 rfl ?_
  refine ev_ild1 3 dX12_changeMajor_2 rfl ?_
  refine tc_V1 6 14 dX12_changeMajor_3 lkv_X12_158 (tr40 hT) rfl rfl (by first | decide | omega) (Nat.le_of_ble_eq_true rfl) (isStudent_no hT hO hM hb hn) ?_
  refine tj_if_ne 13 9 dX12_changeMajor_6 (by decide) rfl (by first | exact TR.rng hT _ _ _ | exact R31_of _ | exact bi_R _ | (constructor <;> omega)) (fun c6 => ?_) (fun c6 => ?_)
  · exact False.elim (by omega)
  · skip
    refine tj_iconst 10 dX12_changeMajor_9 rfl ?_
    refine ev_goto 27 dX12_changeMajor_10 (by decide) ?_
    refine tm_V1 30 14 dX12_changeMajor_27 lkv_X12_144 (tr40 hT) rfl rfl (by first | decide | omega) (Nat.le_of_ble_eq_true rfl) (goes_n hT (by omega)) (fun h X1 hT hP27 => ?_)
    have hM1 := hM
    have hM : RM O X1 := by rw [hP27]; exact rm_th hM1 _
    have q0 := rm_nC hM
    have q2 := rm_nS hM
    refine tj_if_ne 35 33 dX12_changeMajor_30 (by decide) rfl (by first | exact TR.rng hT _ _ _ | exact R31_of _ | exact bi_R _ | (constructor <;> omega)) (fun c30 => ?_) (fun c30 => ?_)
    · exact False.elim (by omega)
    · skip
      refine tj_iconst 34 dX12_changeMajor_33 rfl ?_
      exact ev_ireturn (uq_i (by first | rfl | omega | exact bi_dt (by omega) | exact bi_df (by omega) | (skip)) hT (by assumption)) rfl dX12_changeMajor_34
set_option maxRecDepth 100000 in
set_option maxHeartbeats 4000000 in
theorem c_X12_changeMajor_x2 {g : Gt} {α : AL} {ν : Nat → Nat → Bool} {X : XM} {h : AH} (hT : TR g α ν X h) {O : XM} (hO : WO O) (hM : RM O X) {s : Nat} (hs : (s : Int) < nS O) {a1 : Int} (ha1 : R31 a1) (hm : ¬ (0 ≤ a1 ∧ a1 ≤ 3)) : Mu g α ν M_X12_changeMajor 27 [.ref (α 40 0), .int (J (s : Int)), .int (J a1)] h (some (.int (J (0)))) (fun X' => X' = xs X 40 0 0 2) := by
  refine mu_of rfl rfl (ls := [some (.ref (α 40 0)), some (.int (J (s : Int))), some (.int (J a1)), none]) rfl (Nat.le_of_ble_eq_true rfl) ?_
  show Ev g M_X12_changeMajor 27 0 [some (.ref (α 40 0)), some (.int (J (s : Int))), some (.int (J a1)), none] [] h 0 0 (UQ g α ν (some (.int (J (0)))) (fun X' => X' = xs X 40 0 0 2))
  have q0 := rm_nC hM
  have q1 := wo_nC hO
  have q2 := rm_nS hM
  have q3 := wo_nS hO
  refine ev_ald0 1 dX12_changeMajor_0 rfl ?_
  refine ev_ald0 2 dX12_changeMajor_1 rfl ?_
  refine ev_ild1 3 dX12_changeMajor_2 rfl ?_
  refine tc_V1 6 14 dX12_changeMajor_3 lkv_X12_158 (tr40 hT) rfl rfl (by first | decide | omega) (Nat.le_of_ble_eq_true rfl) (isStudent_ok hT hO hM (by omega)) ?_
  refine tj_if_ne 13 9 dX12_changeMajor_6 (by decide) rfl (by first | exact TR.rng hT _ _ _ | exact R31_of _ | exact bi_R _ | (constructor <;> omega)) (fun c6 => ?_) (fun c6 => ?_)
  · skip
    refine ev_ild2 14 dX12_changeMajor_13 rfl ?_
    refine tj_iconst 15 dX12_changeMajor_14 rfl ?_
    refine tj_iconst 16 dX12_changeMajor_15 rfl ?_
    refine tc_S3 19 dX12_changeMajor_16 lks_X12_96 rfl (by first | decide | omega) (Nat.le_of_ble_eq_true rfl) (in_no (by first | exact TR.rng hT _ _ _ | exact R31_of _ | exact bi_R _ | (constructor <;> omega)) (by first | exact TR.rng hT _ _ _ | exact R31_of _ | exact bi_R _ | (constructor <;> omega)) (by first | exact TR.rng hT _ _ _ | exact R31_of _ | exact bi_R _ | (constructor <;> omega)) (by omega)) ?_
    refine tj_if_ne 26 22 dX12_changeMajor_19 (by decide) rfl (by first | exact TR.rng hT _ _ _ | exact R31_of _ | exact bi_R _ | (constructor <;> omega)) (fun c19 => ?_) (fun c19 => ?_)
    · exact False.elim (by omega)
    · skip
      refine tj_iconst 23 dX12_changeMajor_22 rfl ?_
      refine ev_goto 27 dX12_changeMajor_23 (by decide) ?_
      refine tm_V1 30 14 dX12_changeMajor_27 lkv_X12_144 (tr40 hT) rfl rfl (by first | decide | omega) (Nat.le_of_ble_eq_true rfl) (goes_n hT (by omega)) (fun h X1 hT hP27 => ?_)
      have hM1 := hM
      have hM : RM O X1 := by rw [hP27]; exact rm_th hM1 _
      have q0 := rm_nC hM
      have q2 := rm_nS hM
      refine tj_if_ne 35 33 dX12_changeMajor_30 (by decide) rfl (by first | exact TR.rng hT _ _ _ | exact R31_of _ | exact bi_R _ | (constructor <;> omega)) (fun c30 => ?_) (fun c30 => ?_)
      · exact False.elim (by omega)
      · skip
        refine tj_iconst 34 dX12_changeMajor_33 rfl ?_
        exact ev_ireturn (uq_i (by first | rfl | omega | exact bi_dt (by omega) | exact bi_df (by omega) | (skip)) hT (by assumption)) rfl dX12_changeMajor_34
  · exact False.elim (by omega)
set_option maxRecDepth 100000 in
set_option maxHeartbeats 4000000 in
theorem c_X12_changeMajor_ok {g : Gt} {α : AL} {ν : Nat → Nat → Bool} {X : XM} {h : AH} (hT : TR g α ν X h) {O : XM} (hO : WO O) (hM : RM O X) {s : Nat} (hs : (s : Int) < nS O) {a1 : Int} (ha1 : R31 a1) (hm : 0 ≤ a1 ∧ a1 ≤ 3) : Mu g α ν M_X12_changeMajor 27 [.ref (α 40 0), .int (J (s : Int)), .int (J a1)] h (some (.int (J (O 4 s 0)))) (fun X' => RM (gv (xs O 4 s 0 a1)) X' ∧ CZ X X' 0) := by
  refine mu_of rfl rfl (ls := [some (.ref (α 40 0)), some (.int (J (s : Int))), some (.int (J a1)), none]) rfl (Nat.le_of_ble_eq_true rfl) ?_
  show Ev g M_X12_changeMajor 27 0 [some (.ref (α 40 0)), some (.int (J (s : Int))), some (.int (J a1)), none] [] h 0 0 (UQ g α ν (some (.int (J (O 4 s 0)))) (fun X' => RM (gv (xs O 4 s 0 a1)) X' ∧ CZ X X' 0))
  have q0 := rm_nC hM
  have q1 := wo_nC hO
  have q2 := rm_nS hM
  have q3 := wo_nS hO
  refine ev_ald0 1 dX12_changeMajor_0 rfl ?_
  refine ev_ald0 2 dX12_changeMajor_1 rfl ?_
  refine ev_ild1 3 dX12_changeMajor_2 rfl ?_
  refine tc_V1 6 14 dX12_changeMajor_3 lkv_X12_158 (tr40 hT) rfl rfl (by first | decide | omega) (Nat.le_of_ble_eq_true rfl) (isStudent_ok hT hO hM (by omega)) ?_
  refine tj_if_ne 13 9 dX12_changeMajor_6 (by decide) rfl (by first | exact TR.rng hT _ _ _ | exact R31_of _ | exact bi_R _ | (constructor <;> omega)) (fun c6 => ?_) (fun c6 => ?_)
  · skip
    refine ev_ild2 14 dX12_changeMajor_13 rfl ?_
    refine tj_iconst 15 dX12_changeMajor_14 rfl ?_
    refine tj_iconst 16 dX12_changeMajor_15 rfl ?_
    refine tc_S3 19 dX12_changeMajor_16 lks_X12_96 rfl (by first | decide | omega) (Nat.le_of_ble_eq_true rfl) (in_ok (by first | exact TR.rng hT _ _ _ | exact R31_of _ | exact bi_R _ | (constructor <;> omega)) (by first | exact TR.rng hT _ _ _ | exact R31_of _ | exact bi_R _ | (constructor <;> omega)) (by first | exact TR.rng hT _ _ _ | exact R31_of _ | exact bi_R _ | (constructor <;> omega)) (by omega)) ?_
    refine tj_if_ne 26 22 dX12_changeMajor_19 (by decide) rfl (by first | exact TR.rng hT _ _ _ | exact R31_of _ | exact bi_R _ | (constructor <;> omega)) (fun c19 => ?_) (fun c19 => ?_)
    · skip
      refine tj_iconst 27 dX12_changeMajor_26 rfl ?_
      refine tm_V1 30 14 dX12_changeMajor_27 lkv_X12_144 (tr40 hT) rfl rfl (by first | decide | omega) (Nat.le_of_ble_eq_true rfl) (goes_0 hT) (fun h X1 hT hP27 => ?_)
      have hM1 := hM
      have hM : RM O X1 := by rw [hP27]; exact rm_th hM1 _
      have q0 := rm_nC hM
      have q2 := rm_nS hM
      refine tj_if_ne 35 33 dX12_changeMajor_30 (by decide) rfl (by first | exact TR.rng hT _ _ _ | exact R31_of _ | exact bi_R _ | (constructor <;> omega)) (fun c30 => ?_) (fun c30 => ?_)
      · skip
        refine ev_ald0 36 dX12_changeMajor_35 rfl ?_
        refine ev_getfield 39 14 11 fl_X12_28_14 (tr40 hT) rfl dX12_changeMajor_36 rfl ?_
        refine ev_ild1 40 dX12_changeMajor_39 rfl ?_
        refine tv_iald 41 (tr51 hT) (s) (by omega) (by omega) (by omega) dX12_changeMajor_40 rfl ?_
        refine ev_ist3 42 dX12_changeMajor_41 rfl (by decide) rfl ?_
        refine ev_ald0 43 dX12_changeMajor_42 rfl ?_
        refine ev_getfield 46 14 11 fl_X12_28_14 (tr40 hT) rfl dX12_changeMajor_43 rfl ?_
        refine ev_ild1 47 dX12_changeMajor_46 rfl ?_
        refine ev_ild2 48 dX12_changeMajor_47 rfl ?_
        refine tv_iast 49 hT (tv51 hT) (fun _ => rfl) (s) (by omega) (by omega) (by omega) (by first | exact TR.rng hT _ _ _ | exact R31_of _ | exact bi_R _ | (constructor <;> omega)) dX12_changeMajor_48 rfl (fun h hT => ?_)
        obtain ⟨X3, hX3⟩ : ∃ Z, Z = xs X1 51 0 s a1 := ⟨_, rfl⟩
        rw [← hX3] at hT
        have hM3 : RM (xs O 4 s 0 a1) X3 := by rw [hX3]; exact rm_cm hM (fun k _ _ q => xs_nk q) (fun j => xs_at _ _ _ _ _ _)
        refine ev_ald0 50 dX12_changeMajor_49 rfl ?_
        refine tmv_V0 53 14 dX12_changeMajor_50 lkv_X12_193 (tr40 hT) rfl rfl (by first | decide | omega) (Nat.le_of_ble_eq_true rfl) (c_X12_givesOut hT (wo_cm hO hm) hM3) (fun h X1 hT hP50 => ?_)
        refine ev_ild3 54 dX12_changeMajor_53 rfl ?_
        exact ev_ireturn (uq_i (by first | rfl | omega | exact bi_dt (by omega) | exact bi_df (by omega) | (exact rm_maj hM s hs)) hT (by exact ⟨hP50.1, CZ.fm (by rw [hX3, hP27]; exact (CZ.go X 0).st (by decide)) hP50.2⟩)) rfl dX12_changeMajor_54
      · exact False.elim (by omega)
    · exact False.elim (by omega)
  · exact False.elim (by omega)
set_option maxRecDepth 100000 in
set_option maxHeartbeats 4000000 in
theorem c_X12_require_b1 {g : Gt} {α : AL} {ν : Nat → Nat → Bool} {X : XM} {h : AH} (hT : TR g α ν X h) {O : XM} (hO : WO O) (hM : RM O X) {b : Int} (hb : R31 b) (hn : ¬ (0 ≤ b ∧ b < nC O)) {a1 : Int} (ha1 : R31 a1) : Mu g α ν M_X12_require 27 [.ref (α 40 0), .int (J b), .int (J a1)] h (some (.int (J (bi false)))) (fun X' => X' = xs X 40 0 0 1) := by
  refine mu_of rfl rfl (ls := [some (.ref (α 40 0)), some (.int (J b)), some (.int (J a1)), none]) rfl (Nat.le_of_ble_eq_true rfl) ?_
  show Ev g M_X12_require 27 0 [some (.ref (α 40 0)), some (.int (J b)), some (.int (J a1)), none] [] h 0 0 (UQ g α ν (some (.int (J (bi false)))) (fun X' => X' = xs X 40 0 0 1))
  have q0 := rm_nC hM
  have q1 := wo_nC hO
  have q2 := rm_nS hM
  have q3 := wo_nS hO
  refine ev_ald0 1 dX12_require_0 rfl ?_
  refine ev_ald0 2 dX12_require_1 rfl ?_
  refine ev_ild1 3 dX12_require_2 rfl ?_
  refine tc_V1 6 14 dX12_require_3 lkv_X12_151 (tr40 hT) rfl rfl (by first | decide | omega) (Nat.le_of_ble_eq_true rfl) (isCourse_no hT hO hM hb hn) ?_
  refine tj_if_ne 13 9 dX12_require_6 (by decide) rfl (by first | exact TR.rng hT _ _ _ | exact R31_of _ | exact bi_R _ | (constructor <;> omega)) (fun c6 => ?_) (fun c6 => ?_)
  · exact False.elim (by omega)
  · skip
    refine tj_iconst 10 dX12_require_9 rfl ?_
    refine ev_goto 26 dX12_require_10 (by decide) ?_
    refine tm_V1 29 14 dX12_require_26 lkv_X12_144 (tr40 hT) rfl rfl (by first | decide | omega) (Nat.le_of_ble_eq_true rfl) (goes_n hT (by omega)) (fun h X1 hT hP26 => ?_)
    have hM1 := hM
    have hM : RM O X1 := by rw [hP26]; exact rm_th hM1 _
    have q0 := rm_nC hM
    have q2 := rm_nS hM
    refine tj_if_ne 34 32 dX12_require_29 (by decide) rfl (by first | exact TR.rng hT _ _ _ | exact R31_of _ | exact bi_R _ | (constructor <;> omega)) (fun c29 => ?_) (fun c29 => ?_)
    · exact False.elim (by omega)
    · skip
      refine tj_iconst 33 dX12_require_32 rfl ?_
      exact tz_retU (by first | rfl | omega | exact bi_dt (by omega) | exact bi_df (by omega) | (skip)) hT (by assumption) rfl dX12_require_33
set_option maxRecDepth 100000 in
set_option maxHeartbeats 4000000 in
theorem c_X12_require_b2 {g : Gt} {α : AL} {ν : Nat → Nat → Bool} {X : XM} {h : AH} (hT : TR g α ν X h) {O : XM} (hO : WO O) (hM : RM O X) {c : Nat} (hc : (c : Int) < nC O) {b : Int} (hb : R31 b) (hn : ¬ (0 ≤ b ∧ b < nF O)) : Mu g α ν M_X12_require 27 [.ref (α 40 0), .int (J (c : Int)), .int (J b)] h (some (.int (J (bi false)))) (fun X' => X' = xs X 40 0 0 2) := by
  refine mu_of rfl rfl (ls := [some (.ref (α 40 0)), some (.int (J (c : Int))), some (.int (J b)), none]) rfl (Nat.le_of_ble_eq_true rfl) ?_
  show Ev g M_X12_require 27 0 [some (.ref (α 40 0)), some (.int (J (c : Int))), some (.int (J b)), none] [] h 0 0 (UQ g α ν (some (.int (J (bi false)))) (fun X' => X' = xs X 40 0 0 2))
  have q0 := rm_nC hM
  have q1 := wo_nC hO
  have q2 := rm_nS hM
  have q3 := wo_nS hO
  refine ev_ald0 1 dX12_require_0 rfl ?_
  refine ev_ald0 2 dX12_require_1 rfl ?_
  refine ev_ild1 3 dX12_require_2 rfl ?_
  refine tc_V1 6 14 dX12_require_3 lkv_X12_151 (tr40 hT) rfl rfl (by first | decide | omega) (Nat.le_of_ble_eq_true rfl) (isCourse_ok hT hO hM (by omega)) ?_
  refine tj_if_ne 13 9 dX12_require_6 (by decide) rfl (by first | exact TR.rng hT _ _ _ | exact R31_of _ | exact bi_R _ | (constructor <;> omega)) (fun c6 => ?_) (fun c6 => ?_)
  · skip
    refine ev_ald0 14 dX12_require_13 rfl ?_
    refine ev_ild2 15 dX12_require_14 rfl ?_
    refine tc_V1 18 14 dX12_require_15 lkv_X12_136 (tr40 hT) rfl rfl (by first | decide | omega) (Nat.le_of_ble_eq_true rfl) (isFormula_no hT hO hM hb hn) ?_
    refine tj_if_ne 25 21 dX12_require_18 (by decide) rfl (by first | exact TR.rng hT _ _ _ | exact R31_of _ | exact bi_R _ | (constructor <;> omega)) (fun c18 => ?_) (fun c18 => ?_)
    · exact False.elim (by omega)
    · skip
      refine tj_iconst 22 dX12_require_21 rfl ?_
      refine ev_goto 26 dX12_require_22 (by decide) ?_
      refine tm_V1 29 14 dX12_require_26 lkv_X12_144 (tr40 hT) rfl rfl (by first | decide | omega) (Nat.le_of_ble_eq_true rfl) (goes_n hT (by omega)) (fun h X1 hT hP26 => ?_)
      have hM1 := hM
      have hM : RM O X1 := by rw [hP26]; exact rm_th hM1 _
      have q0 := rm_nC hM
      have q2 := rm_nS hM
      refine tj_if_ne 34 32 dX12_require_29 (by decide) rfl (by first | exact TR.rng hT _ _ _ | exact R31_of _ | exact bi_R _ | (constructor <;> omega)) (fun c29 => ?_) (fun c29 => ?_)
      · exact False.elim (by omega)
      · skip
        refine tj_iconst 33 dX12_require_32 rfl ?_
        exact tz_retU (by first | rfl | omega | exact bi_dt (by omega) | exact bi_df (by omega) | (skip)) hT (by assumption) rfl dX12_require_33
  · exact False.elim (by omega)
set_option maxRecDepth 100000 in
set_option maxHeartbeats 4000000 in
theorem c_X12_require_ok {g : Gt} {α : AL} {ν : Nat → Nat → Bool} {X : XM} {h : AH} (hT : TR g α ν X h) {O : XM} (hO : WO O) (hM : RM O X) {c : Nat} (hc : (c : Int) < nC O) {f : Nat} (hf : (f : Int) < nF O) : Mu g α ν M_X12_require 27 [.ref (α 40 0), .int (J (c : Int)), .int (J (f : Int))] h (some (.int (J (bi (decide (O 12 c 5 ≠ -1)))))) (fun X' => RM (gv (xs O 12 c 5 f)) X' ∧ CZ X X' 0) := by
  refine mu_of rfl rfl (ls := [some (.ref (α 40 0)), some (.int (J (c : Int))), some (.int (J (f : Int))), none]) rfl (Nat.le_of_ble_eq_true rfl) ?_
  show Ev g M_X12_require 27 0 [some (.ref (α 40 0)), some (.int (J (c : Int))), some (.int (J (f : Int))), none] [] h 0 0 (UQ g α ν (some (.int (J (bi (decide (O 12 c 5 ≠ -1)))))) (fun X' => RM (gv (xs O 12 c 5 f)) X' ∧ CZ X X' 0))
  have q0 := rm_nC hM
  have q1 := wo_nC hO
  have q2 := rm_nS hM
  have q3 := wo_nS hO
  have hrq := rm_req hM c hc
  have qf9 := wo_nF hO
  refine ev_ald0 1 dX12_require_0 rfl ?_
  refine ev_ald0 2 dX12_require_1 rfl ?_
  refine ev_ild1 3 dX12_require_2 rfl ?_
  refine tc_V1 6 14 dX12_require_3 lkv_X12_151 (tr40 hT) rfl rfl (by first | decide | omega) (Nat.le_of_ble_eq_true rfl) (isCourse_ok hT hO hM (by omega)) ?_
  refine tj_if_ne 13 9 dX12_require_6 (by decide) rfl (by first | exact TR.rng hT _ _ _ | exact R31_of _ | exact bi_R _ | (constructor <;> omega)) (fun c6 => ?_) (fun c6 => ?_)
  · skip
    refine ev_ald0 14 dX12_require_13 rfl ?_
    refine ev_ild2 15 dX12_require_14 rfl ?_
    refine tc_V1 18 14 dX12_require_15 lkv_X12_136 (tr40 hT) rfl rfl (by first | decide | omega) (Nat.le_of_ble_eq_true rfl) (isFormula_ok hT hO hM (by omega)) ?_
    refine tj_if_ne 25 21 dX12_require_18 (by decide) rfl (by first | exact TR.rng hT _ _ _ | exact R31_of _ | exact bi_R _ | (constructor <;> omega)) (fun c18 => ?_) (fun c18 => ?_)
    · skip
      refine tj_iconst 26 dX12_require_25 rfl ?_
      refine tm_V1 29 14 dX12_require_26 lkv_X12_144 (tr40 hT) rfl rfl (by first | decide | omega) (Nat.le_of_ble_eq_true rfl) (goes_0 hT) (fun h X1 hT hP26 => ?_)
      have hM1 := hM
      have hM : RM O X1 := by rw [hP26]; exact rm_th hM1 _
      have q0 := rm_nC hM
      have q2 := rm_nS hM
      refine tj_if_ne 34 32 dX12_require_29 (by decide) rfl (by first | exact TR.rng hT _ _ _ | exact R31_of _ | exact bi_R _ | (constructor <;> omega)) (fun c29 => ?_) (fun c29 => ?_)
      · skip
        refine ev_ald0 35 dX12_require_34 rfl ?_
        refine ev_getfield 38 14 7 fl_X12_19_14 (tr40 hT) rfl dX12_require_35 rfl ?_
        refine ev_ild1 39 dX12_require_38 rfl ?_
        refine tv_iald 40 (tr47 hT) (c) (by omega) (by omega) (by omega) dX12_require_39 rfl ?_
        refine tj_iconst 41 dX12_require_40 rfl ?_
        refine tj_icmp_eq 48 44 dX12_require_41 (by decide) rfl (by first | exact TR.rng hT _ _ _ | exact R31_of _ | exact bi_R _ | (constructor <;> omega)) (by first | exact TR.rng hT _ _ _ | exact R31_of _ | exact bi_R _ | (constructor <;> omega)) (fun c41 => ?_) (fun c41 => ?_)
        · skip
          have hq9 := rm_req hM c hc
          have hq8 : ¬ (O 12 c 5 ≠ -1) := by omega
          refine tj_iconst 49 dX12_require_48 rfl ?_
          refine ev_ist3 50 dX12_require_49 rfl (by decide) rfl ?_
          refine ev_ald0 51 dX12_require_50 rfl ?_
          refine ev_getfield 54 14 7 fl_X12_19_14 (tr40 hT) rfl dX12_require_51 rfl ?_
          refine ev_ild1 55 dX12_require_54 rfl ?_
          refine ev_ild2 56 dX12_require_55 rfl ?_
          refine tv_iast 57 hT (tv47 hT) (fun _ => rfl) (c) (by omega) (by omega) (by omega) (by first | exact TR.rng hT _ _ _ | exact R31_of _ | exact bi_R _ | (constructor <;> omega)) dX12_require_56 rfl (fun h hT => ?_)
          obtain ⟨X3, hX3⟩ : ∃ Z, Z = xs X1 47 0 c (f : Int) := ⟨_, rfl⟩
          rw [← hX3] at hT
          have hM3 : RM (xs O 12 c 5 f) X3 := by rw [hX3]; exact rm_rq hM (fun k _ _ q => xs_nk q) (fun j => xs_at _ _ _ _ _ _)
          refine ev_ald0 58 dX12_require_57 rfl ?_
          refine tmv_V0 61 14 dX12_require_58 lkv_X12_193 (tr40 hT) rfl rfl (by first | decide | omega) (Nat.le_of_ble_eq_true rfl) (c_X12_givesOut hT (wo_rq hO ⟨by omega, hf⟩) hM3) (fun h X1 hT hP58 => ?_)
          refine ev_ild3 62 dX12_require_61 rfl ?_
          exact tz_retU (by first | rfl | omega | exact bi_dt (by omega) | exact bi_df (by omega) | (first | (rw [decide_eq_true hq8]; rfl) | (rw [decide_eq_false hq8]; rfl))) hT (by exact ⟨hP58.1, CZ.fm (by rw [hX3, hP26]; exact (CZ.go X 0).st (by decide)) hP58.2⟩) rfl dX12_require_62
        · skip
          have hq9 := rm_req hM c hc
          have hq8 : O 12 c 5 ≠ -1 := by omega
          refine tj_iconst 45 dX12_require_44 rfl ?_
          refine ev_goto 49 dX12_require_45 (by decide) ?_
          refine ev_ist3 50 dX12_require_49 rfl (by decide) rfl ?_
          refine ev_ald0 51 dX12_require_50 rfl ?_
          refine ev_getfield 54 14 7 fl_X12_19_14 (tr40 hT) rfl dX12_require_51 rfl ?_
          refine ev_ild1 55 dX12_require_54 rfl ?_
          refine ev_ild2 56 dX12_require_55 rfl ?_
          refine tv_iast 57 hT (tv47 hT) (fun _ => rfl) (c) (by omega) (by omega) (by omega) (by first | exact TR.rng hT _ _ _ | exact R31_of _ | exact bi_R _ | (constructor <;> omega)) dX12_require_56 rfl (fun h hT => ?_)
          obtain ⟨X3, hX3⟩ : ∃ Z, Z = xs X1 47 0 c (f : Int) := ⟨_, rfl⟩
          rw [← hX3] at hT
          have hM3 : RM (xs O 12 c 5 f) X3 := by rw [hX3]; exact rm_rq hM (fun k _ _ q => xs_nk q) (fun j => xs_at _ _ _ _ _ _)
          refine ev_ald0 58 dX12_require_57 rfl ?_
          refine tmv_V0 61 14 dX12_require_58 lkv_X12_193 (tr40 hT) rfl rfl (by first | decide | omega) (Nat.le_of_ble_eq_true rfl) (c_X12_givesOut hT (wo_rq hO ⟨by omega, hf⟩) hM3) (fun h X1 hT hP58 => ?_)
          refine ev_ild3 62 dX12_require_61 rfl ?_
          exact tz_retU (by first | rfl | omega | exact bi_dt (by omega) | exact bi_df (by omega) | (first | (rw [decide_eq_true hq8]; rfl) | (rw [decide_eq_false hq8]; rfl))) hT (by exact ⟨hP58.1, CZ.fm (by rw [hX3, hP26]; exact (CZ.go X 0).st (by decide)) hP58.2⟩) rfl dX12_require_62
      · exact False.elim (by omega)
    · exact False.elim (by omega)
  · exact False.elim (by omega)
set_option maxRecDepth 100000 in
set_option maxHeartbeats 4000000 in
theorem c_X12_lift_b1 {g : Gt} {α : AL} {ν : Nat → Nat → Bool} {X : XM} {h : AH} (hT : TR g α ν X h) {O : XM} (hO : WO O) (hM : RM O X) {b : Int} (hb : R31 b) (hn : ¬ (0 ≤ b ∧ b < nC O)) : Mu g α ν M_X12_lift 27 [.ref (α 40 0), .int (J b)] h (some (.int (J (bi false)))) (fun X' => X' = xs X 40 0 0 1) := by
  refine mu_of rfl rfl (ls := [some (.ref (α 40 0)), some (.int (J b)), none]) rfl (Nat.le_of_ble_eq_true rfl) ?_
  show Ev g M_X12_lift 27 0 [some (.ref (α 40 0)), some (.int (J b)), none] [] h 0 0 (UQ g α ν (some (.int (J (bi false)))) (fun X' => X' = xs X 40 0 0 1))
  have q0 := rm_nC hM
  have q1 := wo_nC hO
  have q2 := rm_nS hM
  have q3 := wo_nS hO
  refine ev_ald0 1 dX12_lift_0 rfl ?_
  refine ev_ald0 2 dX12_lift_1 rfl ?_
  refine ev_ild1 3 dX12_lift_2 rfl ?_
  refine tc_V1 6 14 dX12_lift_3 lkv_X12_151 (tr40 hT) rfl rfl (by first | decide | omega) (Nat.le_of_ble_eq_true rfl) (isCourse_no hT hO hM hb hn) ?_
  refine tj_if_eq 13 9 dX12_lift_6 (by decide) rfl (by first | exact TR.rng hT _ _ _ | exact R31_of _ | exact bi_R _ | (constructor <;> omega)) (fun c6 => ?_) (fun c6 => ?_)
  · skip
    refine tj_iconst 14 dX12_lift_13 rfl ?_
    refine tm_V1 17 14 dX12_lift_14 lkv_X12_144 (tr40 hT) rfl rfl (by first | decide | omega) (Nat.le_of_ble_eq_true rfl) (goes_n hT (by omega)) (fun h X1 hT hP14 => ?_)
    have hM1 := hM
    have hM : RM O X1 := by rw [hP14]; exact rm_th hM1 _
    have q0 := rm_nC hM
    have q2 := rm_nS hM
    refine tj_if_ne 22 20 dX12_lift_17 (by decide) rfl (by first | exact TR.rng hT _ _ _ | exact R31_of _ | exact bi_R _ | (constructor <;> omega)) (fun c17 => ?_) (fun c17 => ?_)
    · exact False.elim (by omega)
    · skip
      refine tj_iconst 21 dX12_lift_20 rfl ?_
      exact tz_retU (by first | rfl | omega | exact bi_dt (by omega) | exact bi_df (by omega) | (skip)) hT (by assumption) rfl dX12_lift_21
  · exact False.elim (by omega)
set_option maxRecDepth 100000 in
set_option maxHeartbeats 4000000 in
theorem c_X12_lift_ok {g : Gt} {α : AL} {ν : Nat → Nat → Bool} {X : XM} {h : AH} (hT : TR g α ν X h) {O : XM} (hO : WO O) (hM : RM O X) {c : Nat} (hc : (c : Int) < nC O) : Mu g α ν M_X12_lift 27 [.ref (α 40 0), .int (J (c : Int))] h (some (.int (J (bi (decide (O 12 c 5 ≠ -1)))))) (fun X' => RM (gv (xs O 12 c 5 (-1))) X' ∧ CZ X X' 0) := by
  refine mu_of rfl rfl (ls := [some (.ref (α 40 0)), some (.int (J (c : Int))), none]) rfl (Nat.le_of_ble_eq_true rfl) ?_
  show Ev g M_X12_lift 27 0 [some (.ref (α 40 0)), some (.int (J (c : Int))), none] [] h 0 0 (UQ g α ν (some (.int (J (bi (decide (O 12 c 5 ≠ -1)))))) (fun X' => RM (gv (xs O 12 c 5 (-1))) X' ∧ CZ X X' 0))
  have q0 := rm_nC hM
  have q1 := wo_nC hO
  have q2 := rm_nS hM
  have q3 := wo_nS hO
  have qf9 := wo_nF hO
  refine ev_ald0 1 dX12_lift_0 rfl ?_
  refine ev_ald0 2 dX12_lift_1 rfl ?_
  refine ev_ild1 3 dX12_lift_2 rfl ?_
  refine tc_V1 6 14 dX12_lift_3 lkv_X12_151 (tr40 hT) rfl rfl (by first | decide | omega) (Nat.le_of_ble_eq_true rfl) (isCourse_ok hT hO hM (by omega)) ?_
  refine tj_if_eq 13 9 dX12_lift_6 (by decide) rfl (by first | exact TR.rng hT _ _ _ | exact R31_of _ | exact bi_R _ | (constructor <;> omega)) (fun c6 => ?_) (fun c6 => ?_)
  · exact False.elim (by omega)
  · skip
    refine tj_iconst 10 dX12_lift_9 rfl ?_
    refine ev_goto 14 dX12_lift_10 (by decide) ?_
    refine tm_V1 17 14 dX12_lift_14 lkv_X12_144 (tr40 hT) rfl rfl (by first | decide | omega) (Nat.le_of_ble_eq_true rfl) (goes_0 hT) (fun h X1 hT hP14 => ?_)
    have hM1 := hM
    have hM : RM O X1 := by rw [hP14]; exact rm_th hM1 _
    have q0 := rm_nC hM
    have q2 := rm_nS hM
    refine tj_if_ne 22 20 dX12_lift_17 (by decide) rfl (by first | exact TR.rng hT _ _ _ | exact R31_of _ | exact bi_R _ | (constructor <;> omega)) (fun c17 => ?_) (fun c17 => ?_)
    · skip
      refine ev_ald0 23 dX12_lift_22 rfl ?_
      refine ev_getfield 26 14 7 fl_X12_19_14 (tr40 hT) rfl dX12_lift_23 rfl ?_
      refine ev_ild1 27 dX12_lift_26 rfl ?_
      refine tv_iald 28 (tr47 hT) (c) (by omega) (by omega) (by omega) dX12_lift_27 rfl ?_
      refine tj_iconst 29 dX12_lift_28 rfl ?_
      refine tj_icmp_eq 36 32 dX12_lift_29 (by decide) rfl (by first | exact TR.rng hT _ _ _ | exact R31_of _ | exact bi_R _ | (constructor <;> omega)) (by first | exact TR.rng hT _ _ _ | exact R31_of _ | exact bi_R _ | (constructor <;> omega)) (fun c29 => ?_) (fun c29 => ?_)
      · skip
        have hq9 := rm_req hM c hc
        have hq8 : ¬ (O 12 c 5 ≠ -1) := by omega
        refine tj_iconst 37 dX12_lift_36 rfl ?_
        refine ev_ist2 38 dX12_lift_37 rfl (by decide) rfl ?_
        refine ev_ald0 39 dX12_lift_38 rfl ?_
        refine ev_getfield 42 14 7 fl_X12_19_14 (tr40 hT) rfl dX12_lift_39 rfl ?_
        refine ev_ild1 43 dX12_lift_42 rfl ?_
        refine tj_iconst 44 dX12_lift_43 rfl ?_
        refine tv_iast 45 hT (tv47 hT) (fun _ => rfl) (c) (by omega) (by omega) (by omega) (by first | exact TR.rng hT _ _ _ | exact R31_of _ | exact bi_R _ | (constructor <;> omega)) dX12_lift_44 rfl (fun h hT => ?_)
        obtain ⟨X3, hX3⟩ : ∃ Z, Z = xs X1 47 0 c (-1) := ⟨_, rfl⟩
        rw [← hX3] at hT
        have hM3 : RM (xs O 12 c 5 (-1)) X3 := by rw [hX3]; exact rm_rq hM (fun k _ _ q => xs_nk q) (fun j => xs_at _ _ _ _ _ _)
        refine ev_ald0 46 dX12_lift_45 rfl ?_
        refine tmv_V0 49 14 dX12_lift_46 lkv_X12_193 (tr40 hT) rfl rfl (by first | decide | omega) (Nat.le_of_ble_eq_true rfl) (c_X12_givesOut hT (wo_rq hO ⟨by omega, by omega⟩) hM3) (fun h X1 hT hP46 => ?_)
        refine ev_ild2 50 dX12_lift_49 rfl ?_
        exact tz_retU (by first | rfl | omega | exact bi_dt (by omega) | exact bi_df (by omega) | (first | (rw [decide_eq_true hq8]; rfl) | (rw [decide_eq_false hq8]; rfl))) hT (by exact ⟨hP46.1, CZ.fm (by rw [hX3, hP14]; exact (CZ.go X 0).st (by decide)) hP46.2⟩) rfl dX12_lift_50
      · skip
        have hq9 := rm_req hM c hc
        have hq8 : O 12 c 5 ≠ -1 := by omega
        refine tj_iconst 33 dX12_lift_32 rfl ?_
        refine ev_goto 37 dX12_lift_33 (by decide) ?_
        refine ev_ist2 38 dX12_lift_37 rfl (by decide) rfl ?_
        refine ev_ald0 39 dX12_lift_38 rfl ?_
        refine ev_getfield 42 14 7 fl_X12_19_14 (tr40 hT) rfl dX12_lift_39 rfl ?_
        refine ev_ild1 43 dX12_lift_42 rfl ?_
        refine tj_iconst 44 dX12_lift_43 rfl ?_
        refine tv_iast 45 hT (tv47 hT) (fun _ => rfl) (c) (by omega) (by omega) (by omega) (by first | exact TR.rng hT _ _ _ | exact R31_of _ | exact bi_R _ | (constructor <;> omega)) dX12_lift_44 rfl (fun h hT => ?_)
        obtain ⟨X3, hX3⟩ : ∃ Z, Z = xs X1 47 0 c (-1) := ⟨_, rfl⟩
        rw [← hX3] at hT
        have hM3 : RM (xs O 12 c 5 (-1)) X3 := by rw [hX3]; exact rm_rq hM (fun k _ _ q => xs_nk q) (fun j => xs_at _ _ _ _ _ _)
        refine ev_ald0 46 dX12_lift_45 rfl ?_
        refine tmv_V0 49 14 dX12_lift_46 lkv_X12_193 (tr40 hT) rfl rfl (by first | decide | omega) (Nat.le_of_ble_eq_true rfl) (c_X12_givesOut hT (wo_rq hO ⟨by omega, by omega⟩) hM3) (fun h X1 hT hP46 => ?_)
        refine ev_ild2 50 dX12_lift_49 rfl ?_
        exact tz_retU (by first | rfl | omega | exact bi_dt (by omega) | exact bi_df (by omega) | (first | (rw [decide_eq_true hq8]; rfl) | (rw [decide_eq_false hq8]; rfl))) hT (by exact ⟨hP46.1, CZ.fm (by rw [hX3, hP14]; exact (CZ.go X 0).st (by decide)) hP46.2⟩) rfl dX12_lift_50
    · exact False.elim (by omega)
set_option maxRecDepth 100000 in
set_option maxHeartbeats 4000000 in
theorem c_X12_setDegree_x1 {g : Gt} {α : AL} {ν : Nat → Nat → Bool} {X : XM} {h : AH} (hT : TR g α ν X h) {O : XM} (hO : WO O) (hM : RM O X) {a0 : Int} (ha0 : R31 a0) {a1 : Int} (ha1 : R31 a1) (hm : ¬ (0 ≤ a0 ∧ a0 ≤ 3) ∨ ¬ (0 ≤ a1 ∧ a1 ≤ 120)) : Mu g α ν M_X12_setDegree 27 [.ref (α 40 0), .int (J a0), .int (J a1)] h (some (.int (J (0)))) (fun X' => X' = xs X 40 0 0 1) := by
  refine mu_of rfl rfl (ls := [some (.ref (α 40 0)), some (.int (J a0)), some (.int (J a1)), none]) rfl (Nat.le_of_ble_eq_true rfl) ?_
  show Ev g M_X12_setDegree 27 0 [some (.ref (α 40 0)), some (.int (J a0)), some (.int (J a1)), none] [] h 0 0 (UQ g α ν (some (.int (J (0)))) (fun X' => X' = xs X 40 0 0 1))
  have q0 := rm_nC hM
  have q1 := wo_nC hO
  have q2 := rm_nS hM
  have q3 := wo_nS hO
  refine ev_ald0 1 dX12_setDegree_0 rfl ?_
  refine ev_ild1 2 dX12_setDegree_1 rfl ?_
  refine tj_iconst 3 dX12_setDegree_2 rfl ?_
  refine tj_iconst 4 dX12_setDegree_3 rfl ?_
  refine tc_S3 7 dX12_setDegree_4 lks_X12_96 rfl (by first | decide | omega) (Nat.le_of_ble_eq_true rfl) (c_X12_in (by first | exact TR.rng hT _ _ _ | exact R31_of _ | exact bi_R _ | (constructor <;> omega)) (by first | exact TR.rng hT _ _ _ | exact R31_of _ | exact bi_R _ | (constructor <;> omega)) (by first | exact TR.rng hT _ _ _ | exact R31_of _ | exact bi_R _ | (constructor <;> omega))) ?_
  refine tb_if_eq 20 10 dX12_setDegree_7 (by decide) rfl (fun c7 => ?_) (fun c7 => ?_)
  · skip
    refine tj_iconst 21 dX12_setDegree_20 rfl ?_
    refine ev_goto 25 dX12_setDegree_21 (by decide) ?_
    refine tm_V1 28 14 dX12_setDegree_25 lkv_X12_144 (tr40 hT) rfl rfl (by first | decide | omega) (Nat.le_of_ble_eq_true rfl) (goes_n hT (by omega)) (fun h X1 hT hP25 => ?_)
    have hM1 := hM
    have hM : RM O X1 := by rw [hP25]; exact rm_th hM1 _
    have q0 := rm_nC hM
    have q2 := rm_nS hM
    refine tj_if_ne 33 31 dX12_setDegree_28 (by decide) rfl (by first | exact TR.rng hT _ _ _ | exact R31_of _ | exact bi_R _ | (constructor <;> omega)) (fun c28 => ?_) (fun c28 => ?_)
    · exact False.elim (by omega)
    · skip
      refine tj_iconst 32 dX12_setDegree_31 rfl ?_
      exact ev_ireturn (uq_i (by first | rfl | omega | exact bi_dt (by omega) | exact bi_df (by omega) | (skip)) hT (by assumption)) rfl dX12_setDegree_32
  · skip
    refine ev_ild2 11 dX12_setDegree_10 rfl ?_
    refine tj_iconst 12 dX12_setDegree_11 rfl ?_
    refine tj_bipush 14 dX12_setDegree_12 (by decide) rfl ?_
    refine tc_S3 17 dX12_setDegree_14 lks_X12_96 rfl (by first | decide | omega) (Nat.le_of_ble_eq_true rfl) (c_X12_in (by first | exact TR.rng hT _ _ _ | exact R31_of _ | exact bi_R _ | (constructor <;> omega)) (by first | exact TR.rng hT _ _ _ | exact R31_of _ | exact bi_R _ | (constructor <;> omega)) (by first | exact TR.rng hT _ _ _ | exact R31_of _ | exact bi_R _ | (constructor <;> omega))) ?_
    refine tb_if_ne 24 20 dX12_setDegree_17 (by decide) rfl (fun c17 => ?_) (fun c17 => ?_)
    · exact False.elim (by rcases hm with hm | hm; exact hm (of_decide_eq_true c7); exact hm (of_decide_eq_true c17))
    · skip
      refine tj_iconst 21 dX12_setDegree_20 rfl ?_
      refine ev_goto 25 dX12_setDegree_21 (by decide) ?_
      refine tm_V1 28 14 dX12_setDegree_25 lkv_X12_144 (tr40 hT) rfl rfl (by first | decide | omega) (Nat.le_of_ble_eq_true rfl) (goes_n hT (by omega)) (fun h X1 hT hP25 => ?_)
      have hM1 := hM
      have hM : RM O X1 := by rw [hP25]; exact rm_th hM1 _
      have q0 := rm_nC hM
      have q2 := rm_nS hM
      refine tj_if_ne 33 31 dX12_setDegree_28 (by decide) rfl (by first | exact TR.rng hT _ _ _ | exact R31_of _ | exact bi_R _ | (constructor <;> omega)) (fun c28 => ?_) (fun c28 => ?_)
      · exact False.elim (by omega)
      · skip
        refine tj_iconst 32 dX12_setDegree_31 rfl ?_
        exact ev_ireturn (uq_i (by first | rfl | omega | exact bi_dt (by omega) | exact bi_df (by omega) | (skip)) hT (by assumption)) rfl dX12_setDegree_32
set_option maxRecDepth 100000 in
set_option maxHeartbeats 4000000 in
theorem c_X12_setDegree_ok {g : Gt} {α : AL} {ν : Nat → Nat → Bool} {X : XM} {h : AH} (hT : TR g α ν X h) {O : XM} (hO : WO O) (hM : RM O X) {m : Nat} (hm : m < 4) {a1 : Int} (ha1 : R31 a1) (hn : 0 ≤ a1 ∧ a1 ≤ 120) : Mu g α ν M_X12_setDegree 27 [.ref (α 40 0), .int (J (m : Int)), .int (J a1)] h (some (.int (J (O 3 0 m)))) (fun X' => RM (xs O 3 0 m a1) X' ∧ CZ X X' 0) := by
  refine mu_of rfl rfl (ls := [some (.ref (α 40 0)), some (.int (J (m : Int))), some (.int (J a1)), none]) rfl (Nat.le_of_ble_eq_true rfl) ?_
  show Ev g M_X12_setDegree 27 0 [some (.ref (α 40 0)), some (.int (J (m : Int))), some (.int (J a1)), none] [] h 0 0 (UQ g α ν (some (.int (J (O 3 0 m)))) (fun X' => RM (xs O 3 0 m a1) X' ∧ CZ X X' 0))
  have q0 := rm_nC hM
  have q1 := wo_nC hO
  have q2 := rm_nS hM
  have q3 := wo_nS hO
  refine ev_ald0 1 dX12_setDegree_0 rfl ?_
  refine ev_ild1 2 dX12_setDegree_1 rfl ?_
  refine tj_iconst 3 dX12_setDegree_2 rfl ?_
  refine tj_iconst 4 dX12_setDegree_3 rfl ?_
  refine tc_S3 7 dX12_setDegree_4 lks_X12_96 rfl (by first | decide | omega) (Nat.le_of_ble_eq_true rfl) (in_ok (by first | exact TR.rng hT _ _ _ | exact R31_of _ | exact bi_R _ | (constructor <;> omega)) (by first | exact TR.rng hT _ _ _ | exact R31_of _ | exact bi_R _ | (constructor <;> omega)) (by first | exact TR.rng hT _ _ _ | exact R31_of _ | exact bi_R _ | (constructor <;> omega)) (by omega)) ?_
  refine tj_if_eq 20 10 dX12_setDegree_7 (by decide) rfl (by first | exact TR.rng hT _ _ _ | exact R31_of _ | exact bi_R _ | (constructor <;> omega)) (fun c7 => ?_) (fun c7 => ?_)
  · exact False.elim (by omega)
  · skip
    refine ev_ild2 11 dX12_setDegree_10 rfl ?_
    refine tj_iconst 12 dX12_setDegree_11 rfl ?_
    refine tj_bipush 14 dX12_setDegree_12 (by decide) rfl ?_
    refine tc_S3 17 dX12_setDegree_14 lks_X12_96 rfl (by first | decide | omega) (Nat.le_of_ble_eq_true rfl) (in_ok (by first | exact TR.rng hT _ _ _ | exact R31_of _ | exact bi_R _ | (constructor <;> omega)) (by first | exact TR.rng hT _ _ _ | exact R31_of _ | exact bi_R _ | (constructor <;> omega)) (by first | exact TR.rng hT _ _ _ | exact R31_of _ | exact bi_R _ | (constructor <;> omega)) (by omega)) ?_
    refine tj_if_ne 24 20 dX12_setDegree_17 (by decide) rfl (by first | exact TR.rng hT _ _ _ | exact R31_of _ | exact bi_R _ | (constructor <;> omega)) (fun c17 => ?_) (fun c17 => ?_)
    · skip
      refine tj_iconst 25 dX12_setDegree_24 rfl ?_
      refine tm_V1 28 14 dX12_setDegree_25 lkv_X12_144 (tr40 hT) rfl rfl (by first | decide | omega) (Nat.le_of_ble_eq_true rfl) (goes_0 hT) (fun h X1 hT hP25 => ?_)
      have hM1 := hM
      have hM : RM O X1 := by rw [hP25]; exact rm_th hM1 _
      have q0 := rm_nC hM
      have q2 := rm_nS hM
      refine tj_if_ne 33 31 dX12_setDegree_28 (by decide) rfl (by first | exact TR.rng hT _ _ _ | exact R31_of _ | exact bi_R _ | (constructor <;> omega)) (fun c28 => ?_) (fun c28 => ?_)
      · skip
        refine ev_ald0 34 dX12_setDegree_33 rfl ?_
        refine ev_getfield 37 14 28 fl_X12_73_14 (tr40 hT) rfl dX12_setDegree_34 rfl ?_
        refine ev_ild1 38 dX12_setDegree_37 rfl ?_
        refine tv_iald 39 (tr68 hT) (m) (by omega) (by omega) (by omega) dX12_setDegree_38 rfl ?_
        refine ev_ist3 40 dX12_setDegree_39 rfl (by decide) rfl ?_
        refine ev_ald0 41 dX12_setDegree_40 rfl ?_
        refine ev_getfield 44 14 28 fl_X12_73_14 (tr40 hT) rfl dX12_setDegree_41 rfl ?_
        refine ev_ild1 45 dX12_setDegree_44 rfl ?_
        refine ev_ild2 46 dX12_setDegree_45 rfl ?_
        refine tv_iast 47 hT (tv68 hT) (fun _ => rfl) (m) (by omega) (by omega) (by omega) (by first | exact TR.rng hT _ _ _ | exact R31_of _ | exact bi_R _ | (constructor <;> omega)) dX12_setDegree_46 rfl (fun h hT => ?_)
        obtain ⟨X3, hX3⟩ : ∃ Z, Z = xs X1 68 0 m a1 := ⟨_, rfl⟩
        rw [← hX3] at hT
        have hM3 : RM (xs O 3 0 m a1) X3 := by rw [hX3]; exact rm_dg hM (fun k _ _ q => xs_nk q) (fun j => xs_at _ _ _ _ _ _)
        refine ev_ild3 48 dX12_setDegree_47 rfl ?_
        exact ev_ireturn (uq_i (by first | rfl | omega | exact bi_dt (by omega) | exact bi_df (by omega) | (exact rm_deg hM m hm)) hT (by exact ⟨hM3, by rw [hX3, hP25]; exact (CZ.go X 0).st (by decide)⟩)) rfl dX12_setDegree_48
      · exact False.elim (by omega)
    · exact False.elim (by omega)
set_option maxRecDepth 100000 in
set_option maxHeartbeats 4000000 in
theorem c_X12_mark_b1 {g : Gt} {α : AL} {ν : Nat → Nat → Bool} {X : XM} {h : AH} (hT : TR g α ν X h) {O : XM} (hO : WO O) (hM : RM O X) {b : Int} (hb : R31 b) (hn : ¬ (0 ≤ b ∧ b < nS O)) {a1 : Int} (ha1 : R31 a1) {a2 : Int} (ha2 : R31 a2) : Mu g α ν M_X12_mark 27 [.ref (α 40 0), .int (J b), .int (J a1), .int (J a2)] h (some (.int (J (bi false)))) (fun X' => X' = xs X 40 0 0 1) := by
  refine mu_of rfl rfl (ls := [some (.ref (α 40 0)), some (.int (J b)), some (.int (J a1)), some (.int (J a2)), none, none]) rfl (Nat.le_of_ble_eq_true rfl) ?_
  show Ev g M_X12_mark 27 0 [some (.ref (α 40 0)), some (.int (J b)), some (.int (J a1)), some (.int (J a2)), none, none] [] h 0 0 (UQ g α ν (some (.int (J (bi false)))) (fun X' => X' = xs X 40 0 0 1))
  have q0 := rm_nC hM
  have q1 := wo_nC hO
  have q2 := rm_nS hM
  have q3 := wo_nS hO
  refine ev_ald0 1 dX12_mark_0 rfl ?_
  refine ev_ild1 2 dX12_mark_1 rfl ?_
  refine tc_V1 5 14 dX12_mark_2 lkv_X12_158 (tr40 hT) rfl rfl (by first | decide | omega) (Nat.le_of_ble_eq_true rfl) (isStudent_no hT hO hM hb hn) ?_
  refine tj_if_eq 16 8 dX12_mark_5 (by decide) rfl (by first | exact TR.rng hT _ _ _ | exact R31_of _ | exact bi_R _ | (constructor <;> omega)) (fun c5 => ?_) (fun c5 => ?_)
  · skip
    refine tj_iconst 17 dX12_mark_16 rfl ?_
    refine ev_goto 65 dX12_mark_17 (by decide) ?_
    refine ev_ist4 67 dX12_mark_65 rfl (by decide) rfl ?_
    refine ev_ald0 68 dX12_mark_67 rfl ?_
    refine ev_ild4 70 dX12_mark_68 rfl ?_
    refine tm_V1 73 14 dX12_mark_70 lkv_X12_144 (tr40 hT) rfl rfl (by first | decide | omega) (Nat.le_of_ble_eq_true rfl) (goes_n hT (by omega)) (fun h X1 hT hP70 => ?_)
    have hM1 := hM
    have hM : RM O X1 := by rw [hP70]; exact rm_th hM1 _
    have q0 := rm_nC hM
    have q2 := rm_nS hM
    refine tj_if_ne 78 76 dX12_mark_73 (by decide) rfl (by first | exact TR.rng hT _ _ _ | exact R31_of _ | exact bi_R _ | (constructor <;> omega)) (fun c73 => ?_) (fun c73 => ?_)
    · exact False.elim (by omega)
    · skip
      refine tj_iconst 77 dX12_mark_76 rfl ?_
      exact tz_retU (by first | rfl | omega | exact bi_dt (by omega) | exact bi_df (by omega) | (skip)) hT (by assumption) rfl dX12_mark_77
  · exact False.elim (by omega)
set_option maxRecDepth 100000 in
set_option maxHeartbeats 4000000 in
theorem c_X12_mark_b2 {g : Gt} {α : AL} {ν : Nat → Nat → Bool} {X : XM} {h : AH} (hT : TR g α ν X h) {O : XM} (hO : WO O) (hM : RM O X) {s : Nat} (hs : (s : Int) < nS O) {b : Int} (hb : R31 b) (hn : ¬ (0 ≤ b ∧ b < nC O)) {a2 : Int} (ha2 : R31 a2) : Mu g α ν M_X12_mark 27 [.ref (α 40 0), .int (J (s : Int)), .int (J b), .int (J a2)] h (some (.int (J (bi false)))) (fun X' => X' = xs X 40 0 0 1) := by
  refine mu_of rfl rfl (ls := [some (.ref (α 40 0)), some (.int (J (s : Int))), some (.int (J b)), some (.int (J a2)), none, none]) rfl (Nat.le_of_ble_eq_true rfl) ?_
  show Ev g M_X12_mark 27 0 [some (.ref (α 40 0)), some (.int (J (s : Int))), some (.int (J b)), some (.int (J a2)), none, none] [] h 0 0 (UQ g α ν (some (.int (J (bi false)))) (fun X' => X' = xs X 40 0 0 1))
  have q0 := rm_nC hM
  have q1 := wo_nC hO
  have q2 := rm_nS hM
  have q3 := wo_nS hO
  refine ev_ald0 1 dX12_mark_0 rfl ?_
  refine ev_ild1 2 dX12_mark_1 rfl ?_
  refine tc_V1 5 14 dX12_mark_2 lkv_X12_158 (tr40 hT) rfl rfl (by first | decide | omega) (Nat.le_of_ble_eq_true rfl) (isStudent_ok hT hO hM (by omega)) ?_
  refine tj_if_eq 16 8 dX12_mark_5 (by decide) rfl (by first | exact TR.rng hT _ _ _ | exact R31_of _ | exact bi_R _ | (constructor <;> omega)) (fun c5 => ?_) (fun c5 => ?_)
  · exact False.elim (by omega)
  · skip
    refine ev_ald0 9 dX12_mark_8 rfl ?_
    refine ev_ild2 10 dX12_mark_9 rfl ?_
    refine tc_V1 13 14 dX12_mark_10 lkv_X12_151 (tr40 hT) rfl rfl (by first | decide | omega) (Nat.le_of_ble_eq_true rfl) (isCourse_no hT hO hM hb hn) ?_
    refine tj_if_ne 20 16 dX12_mark_13 (by decide) rfl (by first | exact TR.rng hT _ _ _ | exact R31_of _ | exact bi_R _ | (constructor <;> omega)) (fun c13 => ?_) (fun c13 => ?_)
    · exact False.elim (by omega)
    · skip
      refine tj_iconst 17 dX12_mark_16 rfl ?_
      refine ev_goto 65 dX12_mark_17 (by decide) ?_
      refine ev_ist4 67 dX12_mark_65 rfl (by decide) rfl ?_
      refine ev_ald0 68 dX12_mark_67 rfl ?_
      refine ev_ild4 70 dX12_mark_68 rfl ?_
      refine tm_V1 73 14 dX12_mark_70 lkv_X12_144 (tr40 hT) rfl rfl (by first | decide | omega) (Nat.le_of_ble_eq_true rfl) (goes_n hT (by omega)) (fun h X1 hT hP70 => ?_)
      have hM1 := hM
      have hM : RM O X1 := by rw [hP70]; exact rm_th hM1 _
      have q0 := rm_nC hM
      have q2 := rm_nS hM
      refine tj_if_ne 78 76 dX12_mark_73 (by decide) rfl (by first | exact TR.rng hT _ _ _ | exact R31_of _ | exact bi_R _ | (constructor <;> omega)) (fun c73 => ?_) (fun c73 => ?_)
      · exact False.elim (by omega)
      · skip
        refine tj_iconst 77 dX12_mark_76 rfl ?_
        exact tz_retU (by first | rfl | omega | exact bi_dt (by omega) | exact bi_df (by omega) | (skip)) hT (by assumption) rfl dX12_mark_77
set_option maxRecDepth 100000 in
set_option maxHeartbeats 4000000 in
theorem c_X12_mark_x2 {g : Gt} {α : AL} {ν : Nat → Nat → Bool} {X : XM} {h : AH} (hT : TR g α ν X h) {O : XM} (hO : WO O) (hM : RM O X) {s : Nat} (hs : (s : Int) < nS O) {c : Nat} (hc : (c : Int) < nC O) {a2 : Int} (ha2 : R31 a2) (ht : tak O s c = false) : Mu g α ν M_X12_mark 27 [.ref (α 40 0), .int (J (s : Int)), .int (J (c : Int)), .int (J a2)] h (some (.int (J (bi false)))) (fun X' => X' = xs X 40 0 0 2) := by
  refine mu_of rfl rfl (ls := [some (.ref (α 40 0)), some (.int (J (s : Int))), some (.int (J (c : Int))), some (.int (J a2)), none, none]) rfl (Nat.le_of_ble_eq_true rfl) ?_
  show Ev g M_X12_mark 27 0 [some (.ref (α 40 0)), some (.int (J (s : Int))), some (.int (J (c : Int))), some (.int (J a2)), none, none] [] h 0 0 (UQ g α ν (some (.int (J (bi false)))) (fun X' => X' = xs X 40 0 0 2))
  have q0 := rm_nC hM
  have q1 := wo_nC hO
  have q2 := rm_nS hM
  have q3 := wo_nS hO
  refine ev_ald0 1 dX12_mark_0 rfl ?_
  refine ev_ild1 2 dX12_mark_1 rfl ?_
  refine tc_V1 5 14 dX12_mark_2 lkv_X12_158 (tr40 hT) rfl rfl (by first | decide | omega) (Nat.le_of_ble_eq_true rfl) (isStudent_ok hT hO hM (by omega)) ?_
  refine tj_if_eq 16 8 dX12_mark_5 (by decide) rfl (by first | exact TR.rng hT _ _ _ | exact R31_of _ | exact bi_R _ | (constructor <;> omega)) (fun c5 => ?_) (fun c5 => ?_)
  · exact False.elim (by omega)
  · skip
    refine ev_ald0 9 dX12_mark_8 rfl ?_
    refine ev_ild2 10 dX12_mark_9 rfl ?_
    refine tc_V1 13 14 dX12_mark_10 lkv_X12_151 (tr40 hT) rfl rfl (by first | decide | omega) (Nat.le_of_ble_eq_true rfl) (isCourse_ok hT hO hM (by omega)) ?_
    refine tj_if_ne 20 16 dX12_mark_13 (by decide) rfl (by first | exact TR.rng hT _ _ _ | exact R31_of _ | exact bi_R _ | (constructor <;> omega)) (fun c13 => ?_) (fun c13 => ?_)
    · skip
      refine ev_ald0 21 dX12_mark_20 rfl ?_
      refine ev_getfield 24 14 12 fl_X12_31_14 (tr40 hT) rfl dX12_mark_21 rfl ?_
      refine ev_ild1 25 dX12_mark_24 rfl ?_
      refine tv_iald 26 (tr52 hT) (s) (by omega) (by omega) (by omega) dX12_mark_25 rfl ?_
      refine ev_ild2 27 dX12_mark_26 rfl ?_
      refine tc_S2 30 dX12_mark_27 lks_X12_106 rfl (by first | decide | omega) (Nat.le_of_ble_eq_true rfl) (has_of (rm_tak hM _ (by omega)) (by omega) rfl : Pr g M_X12_has 0 _ h (some (.int (J (bi (tak O _ _)))))) ?_
      refine tb_if_ne 37 33 dX12_mark_30 (by decide) rfl (fun c30 => ?_) (fun c30 => ?_)
      · exact False.elim (Bool.false_ne_true (ht.symm.trans c30))
      · skip
        refine tj_iconst 34 dX12_mark_33 rfl ?_
        refine ev_goto 65 dX12_mark_34 (by decide) ?_
        refine ev_ist4 67 dX12_mark_65 rfl (by decide) rfl ?_
        refine ev_ald0 68 dX12_mark_67 rfl ?_
        refine ev_ild4 70 dX12_mark_68 rfl ?_
        refine tm_V1 73 14 dX12_mark_70 lkv_X12_144 (tr40 hT) rfl rfl (by first | decide | omega) (Nat.le_of_ble_eq_true rfl) (goes_n hT (by omega)) (fun h X1 hT hP70 => ?_)
        have hM1 := hM
        have hM : RM O X1 := by rw [hP70]; exact rm_th hM1 _
        have q0 := rm_nC hM
        have q2 := rm_nS hM
        refine tj_if_ne 78 76 dX12_mark_73 (by decide) rfl (by first | exact TR.rng hT _ _ _ | exact R31_of _ | exact bi_R _ | (constructor <;> omega)) (fun c73 => ?_) (fun c73 => ?_)
        · exact False.elim (by omega)
        · skip
          refine tj_iconst 77 dX12_mark_76 rfl ?_
          exact tz_retU (by first | rfl | omega | exact bi_dt (by omega) | exact bi_df (by omega) | (skip)) hT (by assumption) rfl dX12_mark_77
    · exact False.elim (by omega)
set_option maxRecDepth 100000 in
set_option maxHeartbeats 4000000 in
theorem c_X12_mark_x3 {g : Gt} {α : AL} {ν : Nat → Nat → Bool} {X : XM} {h : AH} (hT : TR g α ν X h) {O : XM} (hO : WO O) (hM : RM O X) {s : Nat} (hs : (s : Int) < nS O) {c : Nat} (hc : (c : Int) < nC O) {a2 : Int} (ha2 : R31 a2) (ht : tak O s c = true) (hm : ¬ (0 ≤ a2 ∧ a2 ≤ 100)) : Mu g α ν M_X12_mark 27 [.ref (α 40 0), .int (J (s : Int)), .int (J (c : Int)), .int (J a2)] h (some (.int (J (bi false)))) (fun X' => X' = xs X 40 0 0 3) := by
  refine mu_of rfl rfl (ls := [some (.ref (α 40 0)), some (.int (J (s : Int))), some (.int (J (c : Int))), some (.int (J a2)), none, none]) rfl (Nat.le_of_ble_eq_true rfl) ?_
  show Ev g M_X12_mark 27 0 [some (.ref (α 40 0)), some (.int (J (s : Int))), some (.int (J (c : Int))), some (.int (J a2)), none, none] [] h 0 0 (UQ g α ν (some (.int (J (bi false)))) (fun X' => X' = xs X 40 0 0 3))
  have q0 := rm_nC hM
  have q1 := wo_nC hO
  have q2 := rm_nS hM
  have q3 := wo_nS hO
  refine ev_ald0 1 dX12_mark_0 rfl ?_
  refine ev_ild1 2 dX12_mark_1 rfl ?_
  refine tc_V1 5 14 dX12_mark_2 lkv_X12_158 (tr40 hT) rfl rfl (by first | decide | omega) (Nat.le_of_ble_eq_true rfl) (isStudent_ok hT hO hM (by omega)) ?_
  refine tj_if_eq 16 8 dX12_mark_5 (by decide) rfl (by first | exact TR.rng hT _ _ _ | exact R31_of _ | exact bi_R _ | (constructor <;> omega)) (fun c5 => ?_) (fun c5 => ?_)
  · exact False.elim (by omega)
  · skip
    refine ev_ald0 9 dX12_mark_8 rfl ?_
    refine ev_ild2 10 dX12_mark_9 rfl ?_
    refine tc_V1 13 14 dX12_mark_10 lkv_X12_151 (tr40 hT) rfl rfl (by first | decide | omega) (Nat.le_of_ble_eq_true rfl) (isCourse_ok hT hO hM (by omega)) ?_
    refine tj_if_ne 20 16 dX12_mark_13 (by decide) rfl (by first | exact TR.rng hT _ _ _ | exact R31_of _ | exact bi_R _ | (constructor <;> omega)) (fun c13 => ?_) (fun c13 => ?_)
    · skip
      refine ev_ald0 21 dX12_mark_20 rfl ?_
      refine ev_getfield 24 14 12 fl_X12_31_14 (tr40 hT) rfl dX12_mark_21 rfl ?_
      refine ev_ild1 25 dX12_mark_24 rfl ?_
      refine tv_iald 26 (tr52 hT) (s) (by omega) (by omega) (by omega) dX12_mark_25 rfl ?_
      refine ev_ild2 27 dX12_mark_26 rfl ?_
      refine tc_S2 30 dX12_mark_27 lks_X12_106 rfl (by first | decide | omega) (Nat.le_of_ble_eq_true rfl) (has_of (rm_tak hM _ (by omega)) (by omega) rfl : Pr g M_X12_has 0 _ h (some (.int (J (bi (tak O _ _)))))) ?_
      refine tb_if_ne 37 33 dX12_mark_30 (by decide) rfl (fun c30 => ?_) (fun c30 => ?_)
      · skip
        refine ev_ild3 38 dX12_mark_37 rfl ?_
        refine tj_iconst 39 dX12_mark_38 rfl ?_
        refine tj_bipush 41 dX12_mark_39 (by decide) rfl ?_
        refine tc_S3 44 dX12_mark_41 lks_X12_96 rfl (by first | decide | omega) (Nat.le_of_ble_eq_true rfl) (in_no (by first | exact TR.rng hT _ _ _ | exact R31_of _ | exact bi_R _ | (constructor <;> omega)) (by first | exact TR.rng hT _ _ _ | exact R31_of _ | exact bi_R _ | (constructor <;> omega)) (by first | exact TR.rng hT _ _ _ | exact R31_of _ | exact bi_R _ | (constructor <;> omega)) (by omega)) ?_
        refine tj_if_ne 51 47 dX12_mark_44 (by decide) rfl (by first | exact TR.rng hT _ _ _ | exact R31_of _ | exact bi_R _ | (constructor <;> omega)) (fun c44 => ?_) (fun c44 => ?_)
        · exact False.elim (by omega)
        · skip
          refine tj_iconst 48 dX12_mark_47 rfl ?_
          refine ev_goto 65 dX12_mark_48 (by decide) ?_
          refine ev_ist4 67 dX12_mark_65 rfl (by decide) rfl ?_
          refine ev_ald0 68 dX12_mark_67 rfl ?_
          refine ev_ild4 70 dX12_mark_68 rfl ?_
          refine tm_V1 73 14 dX12_mark_70 lkv_X12_144 (tr40 hT) rfl rfl (by first | decide | omega) (Nat.le_of_ble_eq_true rfl) (goes_n hT (by omega)) (fun h X1 hT hP70 => ?_)
          have hM1 := hM
          have hM : RM O X1 := by rw [hP70]; exact rm_th hM1 _
          have q0 := rm_nC hM
          have q2 := rm_nS hM
          refine tj_if_ne 78 76 dX12_mark_73 (by decide) rfl (by first | exact TR.rng hT _ _ _ | exact R31_of _ | exact bi_R _ | (constructor <;> omega)) (fun c73 => ?_) (fun c73 => ?_)
          · exact False.elim (by omega)
          · skip
            refine tj_iconst 77 dX12_mark_76 rfl ?_
            exact tz_retU (by first | rfl | omega | exact bi_dt (by omega) | exact bi_df (by omega) | (skip)) hT (by assumption) rfl dX12_mark_77
      · exact False.elim (Bool.false_ne_true (c30.symm.trans ht))
    · exact False.elim (by omega)
set_option maxRecDepth 100000 in
set_option maxHeartbeats 4000000 in
theorem c_X12_mark_x4 {g : Gt} {α : AL} {ν : Nat → Nat → Bool} {X : XM} {h : AH} (hT : TR g α ν X h) {O : XM} (hO : WO O) (hM : RM O X) {s : Nat} (hs : (s : Int) < nS O) {c : Nat} (hc : (c : Int) < nC O) {a2 : Int} (ha2 : R31 a2) (ht : tak O s c = true) (hm : 0 ≤ a2 ∧ a2 ≤ 100) (hd : O 0 0 5 ≤ 20) : Mu g α ν M_X12_mark 27 [.ref (α 40 0), .int (J (s : Int)), .int (J (c : Int)), .int (J a2)] h (some (.int (J (bi false)))) (fun X' => X' = xs X 40 0 0 4) := by
  refine mu_of rfl rfl (ls := [some (.ref (α 40 0)), some (.int (J (s : Int))), some (.int (J (c : Int))), some (.int (J a2)), none, none]) rfl (Nat.le_of_ble_eq_true rfl) ?_
  show Ev g M_X12_mark 27 0 [some (.ref (α 40 0)), some (.int (J (s : Int))), some (.int (J (c : Int))), some (.int (J a2)), none, none] [] h 0 0 (UQ g α ν (some (.int (J (bi false)))) (fun X' => X' = xs X 40 0 0 4))
  have q0 := rm_nC hM
  have q1 := wo_nC hO
  have q2 := rm_nS hM
  have q3 := wo_nS hO
  have qd := rm_day hM
  refine ev_ald0 1 dX12_mark_0 rfl ?_
  refine ev_ild1 2 dX12_mark_1 rfl ?_
  refine tc_V1 5 14 dX12_mark_2 lkv_X12_158 (tr40 hT) rfl rfl (by first | decide | omega) (Nat.le_of_ble_eq_true rfl) (isStudent_ok hT hO hM (by omega)) ?_
  refine tj_if_eq 16 8 dX12_mark_5 (by decide) rfl (by first | exact TR.rng hT _ _ _ | exact R31_of _ | exact bi_R _ | (constructor <;> omega)) (fun c5 => ?_) (fun c5 => ?_)
  · exact False.elim (by omega)
  · skip
    refine ev_ald0 9 dX12_mark_8 rfl ?_
    refine ev_ild2 10 dX12_mark_9 rfl ?_
    refine tc_V1 13 14 dX12_mark_10 lkv_X12_151 (tr40 hT) rfl rfl (by first | decide | omega) (Nat.le_of_ble_eq_true rfl) (isCourse_ok hT hO hM (by omega)) ?_
    refine tj_if_ne 20 16 dX12_mark_13 (by decide) rfl (by first | exact TR.rng hT _ _ _ | exact R31_of _ | exact bi_R _ | (constructor <;> omega)) (fun c13 => ?_) (fun c13 => ?_)
    · skip
      refine ev_ald0 21 dX12_mark_20 rfl ?_
      refine ev_getfield 24 14 12 fl_X12_31_14 (tr40 hT) rfl dX12_mark_21 rfl ?_
      refine ev_ild1 25 dX12_mark_24 rfl ?_
      refine tv_iald 26 (tr52 hT) (s) (by omega) (by omega) (by omega) dX12_mark_25 rfl ?_
      refine ev_ild2 27 dX12_mark_26 rfl ?_
      refine tc_S2 30 dX12_mark_27 lks_X12_106 rfl (by first | decide | omega) (Nat.le_of_ble_eq_true rfl) (has_of (rm_tak hM _ (by omega)) (by omega) rfl : Pr g M_X12_has 0 _ h (some (.int (J (bi (tak O _ _)))))) ?_
      refine tb_if_ne 37 33 dX12_mark_30 (by decide) rfl (fun c30 => ?_) (fun c30 => ?_)
      · skip
        refine ev_ild3 38 dX12_mark_37 rfl ?_
        refine tj_iconst 39 dX12_mark_38 rfl ?_
        refine tj_bipush 41 dX12_mark_39 (by decide) rfl ?_
        refine tc_S3 44 dX12_mark_41 lks_X12_96 rfl (by first | decide | omega) (Nat.le_of_ble_eq_true rfl) (in_ok (by first | exact TR.rng hT _ _ _ | exact R31_of _ | exact bi_R _ | (constructor <;> omega)) (by first | exact TR.rng hT _ _ _ | exact R31_of _ | exact bi_R _ | (constructor <;> omega)) (by first | exact TR.rng hT _ _ _ | exact R31_of _ | exact bi_R _ | (constructor <;> omega)) (by omega)) ?_
        refine tj_if_ne 51 47 dX12_mark_44 (by decide) rfl (by first | exact TR.rng hT _ _ _ | exact R31_of _ | exact bi_R _ | (constructor <;> omega)) (fun c44 => ?_) (fun c44 => ?_)
        · skip
          refine ev_ald0 52 dX12_mark_51 rfl ?_
          refine ev_getfield 55 14 1 fl_X12_164_14 (tr40 hT) rfl dX12_mark_52 rfl ?_
          refine tj_bipush 57 dX12_mark_55 (by decide) rfl ?_
          refine tj_icmp_gt 64 60 dX12_mark_57 (by decide) rfl (by first | exact TR.rng hT _ _ _ | exact R31_of _ | exact bi_R _ | (constructor <;> omega)) (by first | exact TR.rng hT _ _ _ | exact R31_of _ | exact bi_R _ | (constructor <;> omega)) (fun c57 => ?_) (fun c57 => ?_)
          · exact False.elim (by omega)
          · skip
            refine tj_iconst 61 dX12_mark_60 rfl ?_
            refine ev_goto 65 dX12_mark_61 (by decide) ?_
            refine ev_ist4 67 dX12_mark_65 rfl (by decide) rfl ?_
            refine ev_ald0 68 dX12_mark_67 rfl ?_
            refine ev_ild4 70 dX12_mark_68 rfl ?_
            refine tm_V1 73 14 dX12_mark_70 lkv_X12_144 (tr40 hT) rfl rfl (by first | decide | omega) (Nat.le_of_ble_eq_true rfl) (goes_n hT (by omega)) (fun h X1 hT hP70 => ?_)
            have hM1 := hM
            have hM : RM O X1 := by rw [hP70]; exact rm_th hM1 _
            have q0 := rm_nC hM
            have q2 := rm_nS hM
            refine tj_if_ne 78 76 dX12_mark_73 (by decide) rfl (by first | exact TR.rng hT _ _ _ | exact R31_of _ | exact bi_R _ | (constructor <;> omega)) (fun c73 => ?_) (fun c73 => ?_)
            · exact False.elim (by omega)
            · skip
              refine tj_iconst 77 dX12_mark_76 rfl ?_
              exact tz_retU (by first | rfl | omega | exact bi_dt (by omega) | exact bi_df (by omega) | (skip)) hT (by assumption) rfl dX12_mark_77
        · exact False.elim (by omega)
      · exact False.elim (Bool.false_ne_true (c30.symm.trans ht))
    · exact False.elim (by omega)
set_option maxRecDepth 100000 in
set_option maxHeartbeats 4000000 in
theorem c_X12_mark_ok {g : Gt} {α : AL} {ν : Nat → Nat → Bool} {X : XM} {h : AH} (hT : TR g α ν X h) {O : XM} (hO : WO O) (hM : RM O X) {s : Nat} (hs : (s : Int) < nS O) {c : Nat} (hc : (c : Int) < nC O) {a2 : Int} (ha2 : R31 a2) (ht : tak O s c = true) (hm : 0 ≤ a2 ∧ a2 ≤ 100) (hd : 20 < O 0 0 5) : Mu g α ν M_X12_mark 27 [.ref (α 40 0), .int (J (s : Int)), .int (J (c : Int)), .int (J a2)] h (some (.int (J (bi (decide (O 7 s c ≠ -1)))))) (fun X' => RM (xs O 7 s c a2) X' ∧ CZ X X' 0) := by
  refine mu_of rfl rfl (ls := [some (.ref (α 40 0)), some (.int (J (s : Int))), some (.int (J (c : Int))), some (.int (J a2)), none, none]) rfl (Nat.le_of_ble_eq_true rfl) ?_
  show Ev g M_X12_mark 27 0 [some (.ref (α 40 0)), some (.int (J (s : Int))), some (.int (J (c : Int))), some (.int (J a2)), none, none] [] h 0 0 (UQ g α ν (some (.int (J (bi (decide (O 7 s c ≠ -1)))))) (fun X' => RM (xs O 7 s c a2) X' ∧ CZ X X' 0))
  have q0 := rm_nC hM
  have q1 := wo_nC hO
  have q2 := rm_nS hM
  have q3 := wo_nS hO
  have qd := rm_day hM
  refine ev_ald0 1 dX12_mark_0 rfl ?_
  refine ev_ild1 2 dX12_mark_1 rfl ?_
  refine tc_V1 5 14 dX12_mark_2 lkv_X12_158 (tr40 hT) rfl rfl (by first | decide | omega) (Nat.le_of_ble_eq_true rfl) (isStudent_ok hT hO hM (by omega)) ?_
  refine tj_if_eq 16 8 dX12_mark_5 (by decide) rfl (by first | exact TR.rng hT _ _ _ | exact R31_of _ | exact bi_R _ | (constructor <;> omega)) (fun c5 => ?_) (fun c5 => ?_)
  · exact False.elim (by omega)
  · skip
    refine ev_ald0 9 dX12_mark_8 rfl ?_
    refine ev_ild2 10 dX12_mark_9 rfl ?_
    refine tc_V1 13 14 dX12_mark_10 lkv_X12_151 (tr40 hT) rfl rfl (by first | decide | omega) (Nat.le_of_ble_eq_true rfl) (isCourse_ok hT hO hM (by omega)) ?_
    refine tj_if_ne 20 16 dX12_mark_13 (by decide) rfl (by first | exact TR.rng hT _ _ _ | exact R31_of _ | exact bi_R _ | (constructor <;> omega)) (fun c13 => ?_) (fun c13 => ?_)
    · skip
      refine ev_ald0 21 dX12_mark_20 rfl ?_
      refine ev_getfield 24 14 12 fl_X12_31_14 (tr40 hT) rfl dX12_mark_21 rfl ?_
      refine ev_ild1 25 dX12_mark_24 rfl ?_
      refine tv_iald 26 (tr52 hT) (s) (by omega) (by omega) (by omega) dX12_mark_25 rfl ?_
      refine ev_ild2 27 dX12_mark_26 rfl ?_
      refine tc_S2 30 dX12_mark_27 lks_X12_106 rfl (by first | decide | omega) (Nat.le_of_ble_eq_true rfl) (has_of (rm_tak hM _ (by omega)) (by omega) rfl : Pr g M_X12_has 0 _ h (some (.int (J (bi (tak O _ _)))))) ?_
      refine tb_if_ne 37 33 dX12_mark_30 (by decide) rfl (fun c30 => ?_) (fun c30 => ?_)
      · skip
        refine ev_ild3 38 dX12_mark_37 rfl ?_
        refine tj_iconst 39 dX12_mark_38 rfl ?_
        refine tj_bipush 41 dX12_mark_39 (by decide) rfl ?_
        refine tc_S3 44 dX12_mark_41 lks_X12_96 rfl (by first | decide | omega) (Nat.le_of_ble_eq_true rfl) (in_ok (by first | exact TR.rng hT _ _ _ | exact R31_of _ | exact bi_R _ | (constructor <;> omega)) (by first | exact TR.rng hT _ _ _ | exact R31_of _ | exact bi_R _ | (constructor <;> omega)) (by first | exact TR.rng hT _ _ _ | exact R31_of _ | exact bi_R _ | (constructor <;> omega)) (by omega)) ?_
        refine tj_if_ne 51 47 dX12_mark_44 (by decide) rfl (by first | exact TR.rng hT _ _ _ | exact R31_of _ | exact bi_R _ | (constructor <;> omega)) (fun c44 => ?_) (fun c44 => ?_)
        · skip
          refine ev_ald0 52 dX12_mark_51 rfl ?_
          refine ev_getfield 55 14 1 fl_X12_164_14 (tr40 hT) rfl dX12_mark_52 rfl ?_
          refine tj_bipush 57 dX12_mark_55 (by decide) rfl ?_
          refine tj_icmp_gt 64 60 dX12_mark_57 (by decide) rfl (by first | exact TR.rng hT _ _ _ | exact R31_of _ | exact bi_R _ | (constructor <;> omega)) (by first | exact TR.rng hT _ _ _ | exact R31_of _ | exact bi_R _ | (constructor <;> omega)) (fun c57 => ?_) (fun c57 => ?_)
          · skip
            refine tj_iconst 65 dX12_mark_64 rfl ?_
            refine ev_ist4 67 dX12_mark_65 rfl (by decide) rfl ?_
            refine ev_ald0 68 dX12_mark_67 rfl ?_
            refine ev_ild4 70 dX12_mark_68 rfl ?_
            refine tm_V1 73 14 dX12_mark_70 lkv_X12_144 (tr40 hT) rfl rfl (by first | decide | omega) (Nat.le_of_ble_eq_true rfl) (goes_0 hT) (fun h X1 hT hP70 => ?_)
            have hM1 := hM
            have hM : RM O X1 := by rw [hP70]; exact rm_th hM1 _
            have q0 := rm_nC hM
            have q2 := rm_nS hM
            refine tj_if_ne 78 76 dX12_mark_73 (by decide) rfl (by first | exact TR.rng hT _ _ _ | exact R31_of _ | exact bi_R _ | (constructor <;> omega)) (fun c73 => ?_) (fun c73 => ?_)
            · skip
              refine ev_ald0 79 dX12_mark_78 rfl ?_
              refine ev_getfield 82 14 14 fl_X12_37_14 (tr40 hT) rfl dX12_mark_79 rfl ?_
              refine ev_ild1 83 dX12_mark_82 rfl ?_
              refine ev_ild2 84 dX12_mark_83 rfl ?_
              refine tc_S2 87 dX12_mark_84 lks_X12_110 rfl (by first | decide | omega) (Nat.le_of_ble_eq_true rfl) c_X12_at ?_
              refine tv_iald 88 (tr54 hT) ((20 * s + c)) (by omega) (by omega) (by omega) dX12_mark_87 rfl ?_
              refine tj_iconst 89 dX12_mark_88 rfl ?_
              refine tj_icmp_eq 96 92 dX12_mark_89 (by decide) rfl (by first | exact TR.rng hT _ _ _ | exact R31_of _ | exact bi_R _ | (constructor <;> omega)) (by first | exact TR.rng hT _ _ _ | exact R31_of _ | exact bi_R _ | (constructor <;> omega)) (fun c89 => ?_) (fun c89 => ?_)
              · skip
                have hq9 := rm_tm hM s c hs (by omega)
                have hq8 : ¬ (O 7 s c ≠ -1) := by omega
                refine tj_iconst 97 dX12_mark_96 rfl ?_
                refine ev_ist5 99 dX12_mark_97 rfl (by decide) rfl ?_
                refine ev_ald0 100 dX12_mark_99 rfl ?_
                refine ev_getfield 103 14 14 fl_X12_37_14 (tr40 hT) rfl dX12_mark_100 rfl ?_
                refine ev_ild1 104 dX12_mark_103 rfl ?_
                refine ev_ild2 105 dX12_mark_104 rfl ?_
                refine tc_S2 108 dX12_mark_105 lks_X12_110 rfl (by first | decide | omega) (Nat.le_of_ble_eq_true rfl) c_X12_at ?_
                refine ev_ild3 109 dX12_mark_108 rfl ?_
                refine tv_iast 110 hT (tv54 hT) (fun _ => rfl) ((20 * s + c)) (by omega) (by omega) (by omega) (by first | exact TR.rng hT _ _ _ | exact R31_of _ | exact bi_R _ | (constructor <;> omega)) dX12_mark_109 rfl (fun h hT => ?_)
                obtain ⟨X3, hX3⟩ : ∃ Z, Z = xs X1 54 0 (20 * s + c) a2 := ⟨_, rfl⟩
                rw [← hX3] at hT
                have hM3 : RM (xs O 7 s c a2) X3 := by rw [hX3]; exact rm_mk hM hs (by omega) (fun k _ _ q => xs_nk q) (fun j => xs_at _ _ _ _ _ _)
                refine ev_ild5 112 dX12_mark_110 rfl ?_
                exact tz_retU (by first | rfl | omega | exact bi_dt (by omega) | exact bi_df (by omega) | (first | (rw [decide_eq_true hq8]; rfl) | (rw [decide_eq_false hq8]; rfl))) hT (by exact ⟨hM3, by rw [hX3, hP70]; exact (CZ.go X 0).st (by decide)⟩) rfl dX12_mark_112
              · skip
                have hq9 := rm_tm hM s c hs (by omega)
                have hq8 : O 7 s c ≠ -1 := by omega
                refine tj_iconst 93 dX12_mark_92 rfl ?_
                refine ev_goto 97 dX12_mark_93 (by decide) ?_
                refine ev_ist5 99 dX12_mark_97 rfl (by decide) rfl ?_
                refine ev_ald0 100 dX12_mark_99 rfl ?_
                refine ev_getfield 103 14 14 fl_X12_37_14 (tr40 hT) rfl dX12_mark_100 rfl ?_
                refine ev_ild1 104 dX12_mark_103 rfl ?_
                refine ev_ild2 105 dX12_mark_104 rfl ?_
                refine tc_S2 108 dX12_mark_105 lks_X12_110 rfl (by first | decide | omega) (Nat.le_of_ble_eq_true rfl) c_X12_at ?_
                refine ev_ild3 109 dX12_mark_108 rfl ?_
                refine tv_iast 110 hT (tv54 hT) (fun _ => rfl) ((20 * s + c)) (by omega) (by omega) (by omega) (by first | exact TR.rng hT _ _ _ | exact R31_of _ | exact bi_R _ | (constructor <;> omega)) dX12_mark_109 rfl (fun h hT => ?_)
                obtain ⟨X3, hX3⟩ : ∃ Z, Z = xs X1 54 0 (20 * s + c) a2 := ⟨_, rfl⟩
                rw [← hX3] at hT
                have hM3 : RM (xs O 7 s c a2) X3 := by rw [hX3]; exact rm_mk hM hs (by omega) (fun k _ _ q => xs_nk q) (fun j => xs_at _ _ _ _ _ _)
                refine ev_ild5 112 dX12_mark_110 rfl ?_
                exact tz_retU (by first | rfl | omega | exact bi_dt (by omega) | exact bi_df (by omega) | (first | (rw [decide_eq_true hq8]; rfl) | (rw [decide_eq_false hq8]; rfl))) hT (by exact ⟨hM3, by rw [hX3, hP70]; exact (CZ.go X 0).st (by decide)⟩) rfl dX12_mark_112
            · exact False.elim (by omega)
          · exact False.elim (by omega)
        · exact False.elim (by omega)
      · exact False.elim (Bool.false_ne_true (c30.symm.trans ht))
    · exact False.elim (by omega)
set_option maxRecDepth 100000 in
set_option maxHeartbeats 4000000 in
theorem c_X12_allow_b1 {g : Gt} {α : AL} {ν : Nat → Nat → Bool} {X : XM} {h : AH} (hT : TR g α ν X h) {O : XM} (hO : WO O) (hM : RM O X) {b : Int} (hb : R31 b) (hn : ¬ (0 ≤ b ∧ b < nR O)) {a1 : Int} (ha1 : R31 a1) : Mu g α ν M_X12_allow 27 [.ref (α 40 0), .int (J b), .int (J a1)] h (some (.int (J (bi false)))) (fun X' => X' = xs X 40 0 0 1) := by
  refine mu_of rfl rfl (ls := [some (.ref (α 40 0)), some (.int (J b)), some (.int (J a1)), none]) rfl (Nat.le_of_ble_eq_true rfl) ?_
  show Ev g M_X12_allow 27 0 [some (.ref (α 40 0)), some (.int (J b)), some (.int (J a1)), none] [] h 0 0 (UQ g α ν (some (.int (J (bi false)))) (fun X' => X' = xs X 40 0 0 1))
  have q0 := rm_nC hM
  have q1 := wo_nC hO
  have q2 := rm_nS hM
  have q3 := wo_nS hO
  have qr := rm_nR hM
  have qr2 := wo_nR hO
  refine ev_ald0 1 dX12_allow_0 rfl ?_
  refine ev_ild1 2 dX12_allow_1 rfl ?_
  refine tj_iconst 3 dX12_allow_2 rfl ?_
  refine ev_ald0 4 dX12_allow_3 rfl ?_
  refine ev_getfield 7 14 23 fl_X12_258_14 (tr40 hT) rfl dX12_allow_4 rfl ?_
  refine tj_iconst 8 dX12_allow_7 rfl ?_
  refine tj_isub 9 dX12_allow_8 rfl ?_
  refine tc_S3 12 dX12_allow_9 lks_X12_96 rfl (by first | decide | omega) (Nat.le_of_ble_eq_true rfl) (in_no (by first | exact TR.rng hT _ _ _ | exact R31_of _ | exact bi_R _ | (constructor <;> omega)) (by first | exact TR.rng hT _ _ _ | exact R31_of _ | exact bi_R _ | (constructor <;> omega)) (by first | exact TR.rng hT _ _ _ | exact R31_of _ | exact bi_R _ | (constructor <;> omega)) (by omega)) ?_
  refine tj_if_ne 19 15 dX12_allow_12 (by decide) rfl (by first | exact TR.rng hT _ _ _ | exact R31_of _ | exact bi_R _ | (constructor <;> omega)) (fun c12 => ?_) (fun c12 => ?_)
  · exact False.elim (by omega)
  · skip
    refine tj_iconst 16 dX12_allow_15 rfl ?_
    refine ev_goto 32 dX12_allow_16 (by decide) ?_
    refine tm_V1 35 14 dX12_allow_32 lkv_X12_144 (tr40 hT) rfl rfl (by first | decide | omega) (Nat.le_of_ble_eq_true rfl) (goes_n hT (by omega)) (fun h X1 hT hP32 => ?_)
    have hM1 := hM
    have hM : RM O X1 := by rw [hP32]; exact rm_th hM1 _
    have q0 := rm_nC hM
    have q2 := rm_nS hM
    refine tj_if_ne 40 38 dX12_allow_35 (by decide) rfl (by first | exact TR.rng hT _ _ _ | exact R31_of _ | exact bi_R _ | (constructor <;> omega)) (fun c35 => ?_) (fun c35 => ?_)
    · exact False.elim (by omega)
    · skip
      refine tj_iconst 39 dX12_allow_38 rfl ?_
      exact tz_retU (by first | rfl | omega | exact bi_dt (by omega) | exact bi_df (by omega) | (skip)) hT (by assumption) rfl dX12_allow_39
set_option maxRecDepth 100000 in
set_option maxHeartbeats 4000000 in
theorem c_X12_allow_b2 {g : Gt} {α : AL} {ν : Nat → Nat → Bool} {X : XM} {h : AH} (hT : TR g α ν X h) {O : XM} (hO : WO O) (hM : RM O X) {r : Nat} (hr : (r : Int) < nR O) {b : Int} (hb : R31 b) (hn : ¬ (0 ≤ b ∧ b < nC O)) : Mu g α ν M_X12_allow 27 [.ref (α 40 0), .int (J (r : Int)), .int (J b)] h (some (.int (J (bi false)))) (fun X' => X' = xs X 40 0 0 2) := by
  refine mu_of rfl rfl (ls := [some (.ref (α 40 0)), some (.int (J (r : Int))), some (.int (J b)), none]) rfl (Nat.le_of_ble_eq_true rfl) ?_
  show Ev g M_X12_allow 27 0 [some (.ref (α 40 0)), some (.int (J (r : Int))), some (.int (J b)), none] [] h 0 0 (UQ g α ν (some (.int (J (bi false)))) (fun X' => X' = xs X 40 0 0 2))
  have q0 := rm_nC hM
  have q1 := wo_nC hO
  have q2 := rm_nS hM
  have q3 := wo_nS hO
  have qr := rm_nR hM
  have qr2 := wo_nR hO
  refine ev_ald0 1 dX12_allow_0 rfl ?_
  refine ev_ild1 2 dX12_allow_1 rfl ?_
  refine tj_iconst 3 dX12_allow_2 rfl ?_
  refine ev_ald0 4 dX12_allow_3 rfl ?_
  refine ev_getfield 7 14 23 fl_X12_258_14 (tr40 hT) rfl dX12_allow_4 rfl ?_
  refine tj_iconst 8 dX12_allow_7 rfl ?_
  refine tj_isub 9 dX12_allow_8 rfl ?_
  refine tc_S3 12 dX12_allow_9 lks_X12_96 rfl (by first | decide | omega) (Nat.le_of_ble_eq_true rfl) (in_ok (by first | exact TR.rng hT _ _ _ | exact R31_of _ | exact bi_R _ | (constructor <;> omega)) (by first | exact TR.rng hT _ _ _ | exact R31_of _ | exact bi_R _ | (constructor <;> omega)) (by first | exact TR.rng hT _ _ _ | exact R31_of _ | exact bi_R _ | (constructor <;> omega)) (by omega)) ?_
  refine tj_if_ne 19 15 dX12_allow_12 (by decide) rfl (by first | exact TR.rng hT _ _ _ | exact R31_of _ | exact bi_R _ | (constructor <;> omega)) (fun c12 => ?_) (fun c12 => ?_)
  · skip
    refine ev_ald0 20 dX12_allow_19 rfl ?_
    refine ev_ild2 21 dX12_allow_20 rfl ?_
    refine tc_V1 24 14 dX12_allow_21 lkv_X12_151 (tr40 hT) rfl rfl (by first | decide | omega) (Nat.le_of_ble_eq_true rfl) (isCourse_no hT hO hM hb hn) ?_
    refine tj_if_ne 31 27 dX12_allow_24 (by decide) rfl (by first | exact TR.rng hT _ _ _ | exact R31_of _ | exact bi_R _ | (constructor <;> omega)) (fun c24 => ?_) (fun c24 => ?_)
    · exact False.elim (by omega)
    · skip
      refine tj_iconst 28 dX12_allow_27 rfl ?_
      refine ev_goto 32 dX12_allow_28 (by decide) ?_
      refine tm_V1 35 14 dX12_allow_32 lkv_X12_144 (tr40 hT) rfl rfl (by first | decide | omega) (Nat.le_of_ble_eq_true rfl) (goes_n hT (by omega)) (fun h X1 hT hP32 => ?_)
      have hM1 := hM
      have hM : RM O X1 := by rw [hP32]; exact rm_th hM1 _
      have q0 := rm_nC hM
      have q2 := rm_nS hM
      refine tj_if_ne 40 38 dX12_allow_35 (by decide) rfl (by first | exact TR.rng hT _ _ _ | exact R31_of _ | exact bi_R _ | (constructor <;> omega)) (fun c35 => ?_) (fun c35 => ?_)
      · exact False.elim (by omega)
      · skip
        refine tj_iconst 39 dX12_allow_38 rfl ?_
        exact tz_retU (by first | rfl | omega | exact bi_dt (by omega) | exact bi_df (by omega) | (skip)) hT (by assumption) rfl dX12_allow_39
  · exact False.elim (by omega)
set_option maxRecDepth 100000 in
set_option maxHeartbeats 4000000 in
theorem c_X12_allow_ok {g : Gt} {α : AL} {ν : Nat → Nat → Bool} {X : XM} {h : AH} (hT : TR g α ν X h) {O : XM} (hO : WO O) (hM : RM O X) {r : Nat} (hr : (r : Int) < nR O) {c : Nat} (hc : (c : Int) < nC O) : Mu g α ν M_X12_allow 27 [.ref (α 40 0), .int (J (r : Int)), .int (J (c : Int))] h (some (.int (J (bi (!decide (O 15 r c ≠ 0)))))) (fun X' => RM (xs O 15 r c 1) X' ∧ CZ X X' 0) := by
  refine mu_of rfl rfl (ls := [some (.ref (α 40 0)), some (.int (J (r : Int))), some (.int (J (c : Int))), none]) rfl (Nat.le_of_ble_eq_true rfl) ?_
  show Ev g M_X12_allow 27 0 [some (.ref (α 40 0)), some (.int (J (r : Int))), some (.int (J (c : Int))), none] [] h 0 0 (UQ g α ν (some (.int (J (bi (!decide (O 15 r c ≠ 0)))))) (fun X' => RM (xs O 15 r c 1) X' ∧ CZ X X' 0))
  have q0 := rm_nC hM
  have q1 := wo_nC hO
  have q2 := rm_nS hM
  have q3 := wo_nS hO
  have qr := rm_nR hM
  have qr2 := wo_nR hO
  refine ev_ald0 1 dX12_allow_0 rfl ?_
  refine ev_ild1 2 dX12_allow_1 rfl ?_
  refine tj_iconst 3 dX12_allow_2 rfl ?_
  refine ev_ald0 4 dX12_allow_3 rfl ?_
  refine ev_getfield 7 14 23 fl_X12_258_14 (tr40 hT) rfl dX12_allow_4 rfl ?_
  refine tj_iconst 8 dX12_allow_7 rfl ?_
  refine tj_isub 9 dX12_allow_8 rfl ?_
  refine tc_S3 12 dX12_allow_9 lks_X12_96 rfl (by first | decide | omega) (Nat.le_of_ble_eq_true rfl) (in_ok (by first | exact TR.rng hT _ _ _ | exact R31_of _ | exact bi_R _ | (constructor <;> omega)) (by first | exact TR.rng hT _ _ _ | exact R31_of _ | exact bi_R _ | (constructor <;> omega)) (by first | exact TR.rng hT _ _ _ | exact R31_of _ | exact bi_R _ | (constructor <;> omega)) (by omega)) ?_
  refine tj_if_ne 19 15 dX12_allow_12 (by decide) rfl (by first | exact TR.rng hT _ _ _ | exact R31_of _ | exact bi_R _ | (constructor <;> omega)) (fun c12 => ?_) (fun c12 => ?_)
  · skip
    refine ev_ald0 20 dX12_allow_19 rfl ?_
    refine ev_ild2 21 dX12_allow_20 rfl ?_
    refine tc_V1 24 14 dX12_allow_21 lkv_X12_151 (tr40 hT) rfl rfl (by first | decide | omega) (Nat.le_of_ble_eq_true rfl) (isCourse_ok hT hO hM (by omega)) ?_
    refine tj_if_ne 31 27 dX12_allow_24 (by decide) rfl (by first | exact TR.rng hT _ _ _ | exact R31_of _ | exact bi_R _ | (constructor <;> omega)) (fun c24 => ?_) (fun c24 => ?_)
    · skip
      refine tj_iconst 32 dX12_allow_31 rfl ?_
      refine tm_V1 35 14 dX12_allow_32 lkv_X12_144 (tr40 hT) rfl rfl (by first | decide | omega) (Nat.le_of_ble_eq_true rfl) (goes_0 hT) (fun h X1 hT hP32 => ?_)
      have hM1 := hM
      have hM : RM O X1 := by rw [hP32]; exact rm_th hM1 _
      have q0 := rm_nC hM
      have q2 := rm_nS hM
      refine tj_if_ne 40 38 dX12_allow_35 (by decide) rfl (by first | exact TR.rng hT _ _ _ | exact R31_of _ | exact bi_R _ | (constructor <;> omega)) (fun c35 => ?_) (fun c35 => ?_)
      · skip
        refine ev_ald0 41 dX12_allow_40 rfl ?_
        refine ev_getfield 44 14 27 fl_X12_70_14 (tr40 hT) rfl dX12_allow_41 rfl ?_
        refine ev_ild1 45 dX12_allow_44 rfl ?_
        refine tv_iald 46 (tr67 hT) (r) (by omega) (by omega) (by omega) dX12_allow_45 rfl ?_
        refine ev_ild2 47 dX12_allow_46 rfl ?_
        refine tc_S2 50 dX12_allow_47 lks_X12_106 rfl (by first | decide | omega) (Nat.le_of_ble_eq_true rfl) (has_of (rm_alw hM _ (by omega)) (by omega) rfl : Pr g M_X12_has 0 _ h (some (.int (J (bi (decide (O 15 r c ≠ 0))))))) ?_
        refine tb_if_ne 57 53 dX12_allow_50 (by decide) rfl (fun c50 => ?_) (fun c50 => ?_)
        · skip
          have t1 := rm_alw hM r hr
          have t3 := t1.1
          refine tj_iconst 58 dX12_allow_57 rfl ?_
          refine ev_ist3 59 dX12_allow_58 rfl (by decide) rfl ?_
          refine ev_ald0 60 dX12_allow_59 rfl ?_
          refine ev_getfield 63 14 27 fl_X12_70_14 (tr40 hT) rfl dX12_allow_60 rfl ?_
          refine ev_ild1 64 dX12_allow_63 rfl ?_
          refine ev_dup2 65 dX12_allow_64 rfl rfl rfl ?_
          refine tv_iald 66 (tr67 hT) (r) (by omega) (by omega) (by omega) dX12_allow_65 rfl ?_
          refine tj_iconst 67 dX12_allow_66 rfl ?_
          refine ev_ild2 68 dX12_allow_67 rfl ?_
          refine tj_ishl 69 dX12_allow_68 1 c rfl rfl (by omega) rfl ?_
          refine tj_ior 70 dX12_allow_69 (X1 67 0 r).toNat (1 <<< c) (by omega) rfl rfl ?_
          have hbs := bitsE_set (rm_alw hM r hr) (c := c) (by omega) (f2 := xs O 15 r c 1 15 r) (by rw [xs_at, if_pos rfl]; decide) (fun j hj => by rw [xs_at, if_neg hj])
          have hb1 := hbs.1
          have hb2 := hbs.2.1
          refine tv_iast 71 hT (tv67 hT) (fun _ => rfl) (r) (by omega) (by omega) (by omega) (by first | exact TR.rng hT _ _ _ | exact R31_of _ | exact bi_R _ | (constructor <;> omega)) dX12_allow_70 rfl (fun h hT => ?_)
          obtain ⟨X3, hX3⟩ : ∃ Z, Z = xs X1 67 0 r (((X1 67 0 r).toNat ||| 1 <<< c : Nat) : Int) := ⟨_, rfl⟩
          rw [← hX3] at hT
          have hM3 : RM (xs O 15 r c 1) X3 := by rw [hX3]; exact rm_al hM hr (by omega) (fun k _ _ q => xs_nk q) (fun j => xs_at _ _ _ _ _ _)
          refine ev_ild3 72 dX12_allow_71 rfl ?_
          exact tz_retU (by first | rfl | omega | exact bi_dt (by omega) | exact bi_df (by omega) | (rw [c50]; rfl)) hT (by exact ⟨hM3, by rw [hX3, hP32]; exact (CZ.go X 0).st (by decide)⟩) rfl dX12_allow_72
        · skip
          have t1 := rm_alw hM r hr
          have t3 := t1.1
          refine tj_iconst 54 dX12_allow_53 rfl ?_
          refine ev_goto 58 dX12_allow_54 (by decide) ?_
          refine ev_ist3 59 dX12_allow_58 rfl (by decide) rfl ?_
          refine ev_ald0 60 dX12_allow_59 rfl ?_
          refine ev_getfield 63 14 27 fl_X12_70_14 (tr40 hT) rfl dX12_allow_60 rfl ?_
          refine ev_ild1 64 dX12_allow_63 rfl ?_
          refine ev_dup2 65 dX12_allow_64 rfl rfl rfl ?_
          refine tv_iald 66 (tr67 hT) (r) (by omega) (by omega) (by omega) dX12_allow_65 rfl ?_
          refine tj_iconst 67 dX12_allow_66 rfl ?_
          refine ev_ild2 68 dX12_allow_67 rfl ?_
          refine tj_ishl 69 dX12_allow_68 1 c rfl rfl (by omega) rfl ?_
          refine tj_ior 70 dX12_allow_69 (X1 67 0 r).toNat (1 <<< c) (by omega) rfl rfl ?_
          have hbs := bitsE_set (rm_alw hM r hr) (c := c) (by omega) (f2 := xs O 15 r c 1 15 r) (by rw [xs_at, if_pos rfl]; decide) (fun j hj => by rw [xs_at, if_neg hj])
          have hb1 := hbs.1
          have hb2 := hbs.2.1
          refine tv_iast 71 hT (tv67 hT) (fun _ => rfl) (r) (by omega) (by omega) (by omega) (by first | exact TR.rng hT _ _ _ | exact R31_of _ | exact bi_R _ | (constructor <;> omega)) dX12_allow_70 rfl (fun h hT => ?_)
          obtain ⟨X3, hX3⟩ : ∃ Z, Z = xs X1 67 0 r (((X1 67 0 r).toNat ||| 1 <<< c : Nat) : Int) := ⟨_, rfl⟩
          rw [← hX3] at hT
          have hM3 : RM (xs O 15 r c 1) X3 := by rw [hX3]; exact rm_al hM hr (by omega) (fun k _ _ q => xs_nk q) (fun j => xs_at _ _ _ _ _ _)
          refine ev_ild3 72 dX12_allow_71 rfl ?_
          exact tz_retU (by first | rfl | omega | exact bi_dt (by omega) | exact bi_df (by omega) | (rw [c50]; rfl)) hT (by exact ⟨hM3, by rw [hX3, hP32]; exact (CZ.go X 0).st (by decide)⟩) rfl dX12_allow_72
      · exact False.elim (by omega)
    · exact False.elim (by omega)
  · exact False.elim (by omega)
/-- what is kept for others; for all -/
def rsO (O : XM) (c : Nat) (m : Nat) : Nat → Int
  | 0 => 0
  | k + 1 => if k = m then rsO O c m k else rsO O c m k + O 13 c k
def rsA (O : XM) (c : Nat) : Nat → Int
  | 0 => 0
  | k + 1 => rsA O c k + O 13 c k
theorem rsO_R {O : XM} (hO : WO O) {c : Nat} (hc : (c : Int) < nC O) (m : Nat) : ∀ k : Nat, k ≤ 4 → 0 ≤ rsO O c m k ∧ rsO O c m k ≤ 12 * k
  | 0, _ => ⟨Int.le_refl 0, Int.le_refl 0⟩
  | k + 1, hk => by
    have h1 := rsO_R hO hc m k (by omega)
    have h2 := wo_res hO c k hc (by omega)
    rw [rsO]
    split <;> omega
theorem rsA_O {O : XM} {c m : Nat} : ∀ k : Nat, rsA O c k = rsO O c m k + (if m < k then O 13 c m else 0)
  | 0 => by rw [rsA, rsO, if_neg (Nat.not_lt_zero m)]; rfl
  | k + 1 => by
    rw [rsA, rsO, rsA_O (m := m) k]
    by_cases e : k = m
    · subst e; rw [if_pos rfl, if_neg (Nat.lt_irrefl k), if_pos (Nat.lt_succ_self k)]; omega
    · rw [if_neg e]
      by_cases q : m < k
      · rw [if_pos q, if_pos (by omega)]; omega
      · rw [if_neg q, if_neg (by omega)]; omega
set_option maxRecDepth 100000 in
set_option maxHeartbeats 4000000 in
theorem c_X12_reservedForOthers {g : Gt} {α : AL} {ν : Nat → Nat → Bool} {X : XM} {h : AH} (hT : TR g α ν X h) {O : XM} (hO : WO O) (hM : RM O X) {c : Nat} (hc : (c : Int) < nC O) {m : Nat} (hm : m < 4) : Pr g M_X12_reservedForOthers 0 [.ref (α 40 0), .int (J (c : Int)), .int (J (m : Int))] h (some (.int (J (rsO O c m 4)))) := by
  refine pr_of rfl rfl (ls := [some (.ref (α 40 0)), some (.int (J (c : Int))), some (.int (J (m : Int))), none, none]) rfl (Nat.le_of_ble_eq_true rfl) ?_
  show Ev g M_X12_reservedForOthers 0 0 [some (.ref (α 40 0)), some (.int (J (c : Int))), some (.int (J (m : Int))), none, none] [] h 0 0 (PQ (some (.int (J (rsO O c m 4)))) h)
  have q0 := rm_nC hM
  have q1 := wo_nC hO
  have q2 := rm_nS hM
  have q3 := wo_nS hO
  refine tj_iconst 1 dX12_reservedForOthers_0 rfl ?_
  refine ev_ist3 2 dX12_reservedForOthers_1 rfl (by decide) rfl ?_
  refine tj_iconst 3 dX12_reservedForOthers_2 rfl ?_
  refine ev_ist4 5 dX12_reservedForOthers_3 rfl (by decide) rfl ?_
  have lp5 : ∀ (n5 : Nat) (k : Nat) (z3 : Int) (z4 : Int) , 5 - k < n5 → (k ≤ 4) → z3 = rsO O c m k → z4 = (k : Int) → Ev g M_X12_reservedForOthers 0 5 [some (.ref (α 40 0)), some (.int (J (c : Int))), some (.int (J (m : Int))), some (.int (J z3)), some (.int (J z4))] [] h 0 0 (PQ (some (.int (J (rsO O c m 4)))) h) := by
    intro n5
    induction n5 with
    | zero => intro k z3 z4 hm; exact absurd hm (Nat.not_lt_zero _)
    | succ n5 ih5 =>
      intro k z3 z4 hm5 hk e3 e4
      subst e3
      subst e4
      refine ev_ild4 7 dX12_reservedForOthers_5 rfl ?_
      refine tj_iconst 8 dX12_reservedForOthers_7 rfl ?_
      refine tj_icmp_ge 41 11 dX12_reservedForOthers_8 (by decide) rfl (by first | exact TR.rng hT _ _ _ | exact R31_of _ | exact bi_R _ | (constructor <;> omega)) (by first | exact TR.rng hT _ _ _ | exact R31_of _ | exact bi_R _ | (constructor <;> omega)) (fun c8 => ?_) (fun c8 => ?_)
      · skip
        refine ev_ild3 42 dX12_reservedForOthers_41 rfl ?_
        exact ev_ireturn (pq_i (by first | rfl | omega | exact bi_dt (by omega) | exact bi_df (by omega) | (rw [show k = 4 by omega]))) rfl dX12_reservedForOthers_42
      · skip
        have hres := rm_res hM c k hc (by omega)
        refine ev_ild3 12 dX12_reservedForOthers_11 rfl ?_
        refine ev_ild4 14 dX12_reservedForOthers_12 rfl ?_
        refine ev_ild2 15 dX12_reservedForOthers_14 rfl ?_
        refine tj_icmp_ne 22 18 dX12_reservedForOthers_15 (by decide) rfl (by first | exact TR.rng hT _ _ _ | exact R31_of _ | exact bi_R _ | (constructor <;> omega)) (by first | exact TR.rng hT _ _ _ | exact R31_of _ | exact bi_R _ | (constructor <;> omega)) (fun c15 => ?_) (fun c15 => ?_)
        · skip
          refine ev_ald0 23 dX12_reservedForOthers_22 rfl ?_
          refine ev_getfield 26 14 6 fl_X12_16_14 (tr40 hT) rfl dX12_reservedForOthers_23 rfl ?_
          refine tj_iconst 27 dX12_reservedForOthers_26 rfl ?_
          refine ev_ild1 28 dX12_reservedForOthers_27 rfl ?_
          refine tj_imul 29 dX12_reservedForOthers_28 rfl ?_
          refine ev_ild4 31 dX12_reservedForOthers_29 rfl ?_
          refine tj_iadd 32 dX12_reservedForOthers_31 rfl ?_
          refine tv_iald 33 (tr46 hT) (((4 * c) + k)) (by omega) (by omega) (by omega) dX12_reservedForOthers_32 rfl ?_
          refine tj_iadd 34 dX12_reservedForOthers_33 rfl ?_
          refine ev_ist3 35 dX12_reservedForOthers_34 rfl (by decide) rfl ?_
          refine tj_inc4 38 dX12_reservedForOthers_35 rfl (by decide) rfl ?_
          refine ev_goto 5 dX12_reservedForOthers_38 (by decide) ?_
          exact ih5 (k + 1) _ _ (by omega) (by first | omega | assumption | omega) (by first | rfl | omega | (first | (rw [rsO, if_pos (show k = m by omega)]; omega) | (rw [rsO, if_neg (show ¬ k = m by omega), hres]))) (by first | rfl | omega | (first | (rw [rsO, if_pos (show k = m by omega)]; omega) | (rw [rsO, if_neg (show ¬ k = m by omega), hres])))
        · skip
          refine tj_iconst 19 dX12_reservedForOthers_18 rfl ?_
          refine ev_goto 33 dX12_reservedForOthers_19 (by decide) ?_
          refine tj_iadd 34 dX12_reservedForOthers_33 rfl ?_
          refine ev_ist3 35 dX12_reservedForOthers_34 rfl (by decide) rfl ?_
          refine tj_inc4 38 dX12_reservedForOthers_35 rfl (by decide) rfl ?_
          refine ev_goto 5 dX12_reservedForOthers_38 (by decide) ?_
          exact ih5 (k + 1) _ _ (by omega) (by first | omega | assumption | omega) (by first | rfl | omega | (first | (rw [rsO, if_pos (show k = m by omega)]; omega) | (rw [rsO, if_neg (show ¬ k = m by omega), hres]))) (by first | rfl | omega | (first | (rw [rsO, if_pos (show k = m by omega)]; omega) | (rw [rsO, if_neg (show ¬ k = m by omega), hres])))
  exact lp5 _ (0) _ _ (Nat.lt_succ_self _) (by first | omega | assumption | omega) (by first | rfl | omega | (first | (rw [rsO, if_pos (show k = m by omega)]; omega) | (rw [rsO, if_neg (show ¬ k = m by omega), hres]))) (by first | rfl | omega | (first | (rw [rsO, if_pos (show k = m by omega)]; omega) | (rw [rsO, if_neg (show ¬ k = m by omega), hres])))
set_option maxRecDepth 100000 in
set_option maxHeartbeats 4000000 in
theorem c_X12_reserve_b1 {g : Gt} {α : AL} {ν : Nat → Nat → Bool} {X : XM} {h : AH} (hT : TR g α ν X h) {O : XM} (hO : WO O) (hM : RM O X) {b : Int} (hb : R31 b) (hn : ¬ (0 ≤ b ∧ b < nC O)) {a1 : Int} (ha1 : R31 a1) {a2 : Int} (ha2 : R31 a2) : Mu g α ν M_X12_reserve 27 [.ref (α 40 0), .int (J b), .int (J a1), .int (J a2)] h (some (.int (J (0)))) (fun X' => X' = xs X 40 0 0 1) := by
  refine mu_of rfl rfl (ls := [some (.ref (α 40 0)), some (.int (J b)), some (.int (J a1)), some (.int (J a2)), none, none]) rfl (Nat.le_of_ble_eq_true rfl) ?_
  show Ev g M_X12_reserve 27 0 [some (.ref (α 40 0)), some (.int (J b)), some (.int (J a1)), some (.int (J a2)), none, none] [] h 0 0 (UQ g α ν (some (.int (J (0)))) (fun X' => X' = xs X 40 0 0 1))
  have q0 := rm_nC hM
  have q1 := wo_nC hO
  have q2 := rm_nS hM
  have q3 := wo_nS hO
  refine ev_ald0 1 dX12_reserve_0 rfl ?_
  refine ev_ild1 2 dX12_reserve_1 rfl ?_
  refine tc_V1 5 14 dX12_reserve_2 lkv_X12_151 (tr40 hT) rfl rfl (by first | decide | omega) (Nat.le_of_ble_eq_true rfl) (isCourse_no hT hO hM hb hn) ?_
  refine tj_if_ne 12 8 dX12_reserve_5 (by decide) rfl (by first | exact TR.rng hT _ _ _ | exact R31_of _ | exact bi_R _ | (constructor <;> omega)) (fun c5 => ?_) (fun c5 => ?_)
  · exact False.elim (by omega)
  · skip
    refine tj_iconst 9 dX12_reserve_8 rfl ?_
    refine ev_goto 30 dX12_reserve_9 (by decide) ?_
    refine ev_ist4 32 dX12_reserve_30 rfl (by decide) rfl ?_
    refine ev_ild4 34 dX12_reserve_32 rfl ?_
    refine tj_if_ne 58 37 dX12_reserve_34 (by decide) rfl (by first | exact TR.rng hT _ _ _ | exact R31_of _ | exact bi_R _ | (constructor <;> omega)) (fun c34 => ?_) (fun c34 => ?_)
    · skip
      refine ev_ild4 60 dX12_reserve_58 rfl ?_
      refine ev_ist4 62 dX12_reserve_60 rfl (by decide) rfl ?_
      refine ev_ald0 63 dX12_reserve_62 rfl ?_
      refine ev_ild4 65 dX12_reserve_63 rfl ?_
      refine tm_V1 68 14 dX12_reserve_65 lkv_X12_144 (tr40 hT) rfl rfl (by first | decide | omega) (Nat.le_of_ble_eq_true rfl) (goes_n hT (by omega)) (fun h X1 hT hP65 => ?_)
      have hM1 := hM
      have hM : RM O X1 := by rw [hP65]; exact rm_th hM1 _
      have q0 := rm_nC hM
      have q2 := rm_nS hM
      refine tj_if_ne 73 71 dX12_reserve_68 (by decide) rfl (by first | exact TR.rng hT _ _ _ | exact R31_of _ | exact bi_R _ | (constructor <;> omega)) (fun c68 => ?_) (fun c68 => ?_)
      · exact False.elim (by omega)
      · skip
        refine tj_iconst 72 dX12_reserve_71 rfl ?_
        exact ev_ireturn (uq_i (by first | rfl | omega | exact bi_dt (by omega) | exact bi_df (by omega) | (skip)) hT (by assumption)) rfl dX12_reserve_72
    · exact False.elim (by omega)
set_option maxRecDepth 100000 in
set_option maxHeartbeats 4000000 in
theorem c_X12_reserve_x2 {g : Gt} {α : AL} {ν : Nat → Nat → Bool} {X : XM} {h : AH} (hT : TR g α ν X h) {O : XM} (hO : WO O) (hM : RM O X) {c : Nat} (hc : (c : Int) < nC O) {a1 : Int} (ha1 : R31 a1) {a2 : Int} (ha2 : R31 a2) (hm : ¬ (0 ≤ a1 ∧ a1 ≤ 3) ∨ a2 < 0) : Mu g α ν M_X12_reserve 27 [.ref (α 40 0), .int (J (c : Int)), .int (J a1), .int (J a2)] h (some (.int (J (0)))) (fun X' => X' = xs X 40 0 0 2) := by
  refine mu_of rfl rfl (ls := [some (.ref (α 40 0)), some (.int (J (c : Int))), some (.int (J a1)), some (.int (J a2)), none, none]) rfl (Nat.le_of_ble_eq_true rfl) ?_
  show Ev g M_X12_reserve 27 0 [some (.ref (α 40 0)), some (.int (J (c : Int))), some (.int (J a1)), some (.int (J a2)), none, none] [] h 0 0 (UQ g α ν (some (.int (J (0)))) (fun X' => X' = xs X 40 0 0 2))
  have q0 := rm_nC hM
  have q1 := wo_nC hO
  have q2 := rm_nS hM
  have q3 := wo_nS hO
  refine ev_ald0 1 dX12_reserve_0 rfl ?_
  refine ev_ild1 2 dX12_reserve_1 rfl ?_
  refine tc_V1 5 14 dX12_reserve_2 lkv_X12_151 (tr40 hT) rfl rfl (by first | decide | omega) (Nat.le_of_ble_eq_true rfl) (isCourse_ok hT hO hM (by omega)) ?_
  refine tj_if_ne 12 8 dX12_reserve_5 (by decide) rfl (by first | exact TR.rng hT _ _ _ | exact R31_of _ | exact bi_R _ | (constructor <;> omega)) (fun c5 => ?_) (fun c5 => ?_)
  · skip
    refine ev_ild2 13 dX12_reserve_12 rfl ?_
    refine tj_iconst 14 dX12_reserve_13 rfl ?_
    refine tj_iconst 15 dX12_reserve_14 rfl ?_
    refine tc_S3 18 dX12_reserve_15 lks_X12_96 rfl (by first | decide | omega) (Nat.le_of_ble_eq_true rfl) (c_X12_in (by first | exact TR.rng hT _ _ _ | exact R31_of _ | exact bi_R _ | (constructor <;> omega)) (by first | exact TR.rng hT _ _ _ | exact R31_of _ | exact bi_R _ | (constructor <;> omega)) (by first | exact TR.rng hT _ _ _ | exact R31_of _ | exact bi_R _ | (constructor <;> omega))) ?_
    refine tb_if_eq 25 21 dX12_reserve_18 (by decide) rfl (fun c18 => ?_) (fun c18 => ?_)
    · skip
      refine tj_iconst 26 dX12_reserve_25 rfl ?_
      refine ev_goto 30 dX12_reserve_26 (by decide) ?_
      refine ev_ist4 32 dX12_reserve_30 rfl (by decide) rfl ?_
      refine ev_ild4 34 dX12_reserve_32 rfl ?_
      refine tj_if_ne 58 37 dX12_reserve_34 (by decide) rfl (by first | exact TR.rng hT _ _ _ | exact R31_of _ | exact bi_R _ | (constructor <;> omega)) (fun c34 => ?_) (fun c34 => ?_)
      · skip
        refine ev_ild4 60 dX12_reserve_58 rfl ?_
        refine ev_ist4 62 dX12_reserve_60 rfl (by decide) rfl ?_
        refine ev_ald0 63 dX12_reserve_62 rfl ?_
        refine ev_ild4 65 dX12_reserve_63 rfl ?_
        refine tm_V1 68 14 dX12_reserve_65 lkv_X12_144 (tr40 hT) rfl rfl (by first | decide | omega) (Nat.le_of_ble_eq_true rfl) (goes_n hT (by omega)) (fun h X1 hT hP65 => ?_)
        have hM1 := hM
        have hM : RM O X1 := by rw [hP65]; exact rm_th hM1 _
        have q0 := rm_nC hM
        have q2 := rm_nS hM
        refine tj_if_ne 73 71 dX12_reserve_68 (by decide) rfl (by first | exact TR.rng hT _ _ _ | exact R31_of _ | exact bi_R _ | (constructor <;> omega)) (fun c68 => ?_) (fun c68 => ?_)
        · exact False.elim (by omega)
        · skip
          refine tj_iconst 72 dX12_reserve_71 rfl ?_
          exact ev_ireturn (uq_i (by first | rfl | omega | exact bi_dt (by omega) | exact bi_df (by omega) | (skip)) hT (by assumption)) rfl dX12_reserve_72
      · exact False.elim (by omega)
    · skip
      refine ev_ild3 22 dX12_reserve_21 rfl ?_
      refine tj_if_ge 29 25 dX12_reserve_22 (by decide) rfl (by first | exact TR.rng hT _ _ _ | exact R31_of _ | exact bi_R _ | (constructor <;> omega)) (fun c22 => ?_) (fun c22 => ?_)
      · exact False.elim (by rcases hm with hm | hm; exact hm (of_decide_eq_true c18); omega)
      · skip
        refine tj_iconst 26 dX12_reserve_25 rfl ?_
        refine ev_goto 30 dX12_reserve_26 (by decide) ?_
        refine ev_ist4 32 dX12_reserve_30 rfl (by decide) rfl ?_
        refine ev_ild4 34 dX12_reserve_32 rfl ?_
        refine tj_if_ne 58 37 dX12_reserve_34 (by decide) rfl (by first | exact TR.rng hT _ _ _ | exact R31_of _ | exact bi_R _ | (constructor <;> omega)) (fun c34 => ?_) (fun c34 => ?_)
        · skip
          refine ev_ild4 60 dX12_reserve_58 rfl ?_
          refine ev_ist4 62 dX12_reserve_60 rfl (by decide) rfl ?_
          refine ev_ald0 63 dX12_reserve_62 rfl ?_
          refine ev_ild4 65 dX12_reserve_63 rfl ?_
          refine tm_V1 68 14 dX12_reserve_65 lkv_X12_144 (tr40 hT) rfl rfl (by first | decide | omega) (Nat.le_of_ble_eq_true rfl) (goes_n hT (by omega)) (fun h X1 hT hP65 => ?_)
          have hM1 := hM
          have hM : RM O X1 := by rw [hP65]; exact rm_th hM1 _
          have q0 := rm_nC hM
          have q2 := rm_nS hM
          refine tj_if_ne 73 71 dX12_reserve_68 (by decide) rfl (by first | exact TR.rng hT _ _ _ | exact R31_of _ | exact bi_R _ | (constructor <;> omega)) (fun c68 => ?_) (fun c68 => ?_)
          · exact False.elim (by omega)
          · skip
            refine tj_iconst 72 dX12_reserve_71 rfl ?_
            exact ev_ireturn (uq_i (by first | rfl | omega | exact bi_dt (by omega) | exact bi_df (by omega) | (skip)) hT (by assumption)) rfl dX12_reserve_72
        · exact False.elim (by omega)
  · exact False.elim (by omega)
set_option maxRecDepth 100000 in
set_option maxHeartbeats 4000000 in
theorem c_X12_reserve_x3 {g : Gt} {α : AL} {ν : Nat → Nat → Bool} {X : XM} {h : AH} (hT : TR g α ν X h) {O : XM} (hO : WO O) (hM : RM O X) {c : Nat} (hc : (c : Int) < nC O) {m : Nat} (hm : m < 4) {a2 : Int} (ha2 : R31 a2) (h0 : 0 ≤ a2) (hn : O 12 c 2 - rsO O c m 4 < a2) : Mu g α ν M_X12_reserve 27 [.ref (α 40 0), .int (J (c : Int)), .int (J (m : Int)), .int (J a2)] h (some (.int (J (0)))) (fun X' => X' = xs X 40 0 0 3) := by
  refine mu_of rfl rfl (ls := [some (.ref (α 40 0)), some (.int (J (c : Int))), some (.int (J (m : Int))), some (.int (J a2)), none, none]) rfl (Nat.le_of_ble_eq_true rfl) ?_
  show Ev g M_X12_reserve 27 0 [some (.ref (α 40 0)), some (.int (J (c : Int))), some (.int (J (m : Int))), some (.int (J a2)), none, none] [] h 0 0 (UQ g α ν (some (.int (J (0)))) (fun X' => X' = xs X 40 0 0 3))
  have q0 := rm_nC hM
  have q1 := wo_nC hO
  have q2 := rm_nS hM
  have q3 := wo_nS hO
  have hro := rsO_R hO hc m 4 (by omega)
  have hse := rm_sea hM c hc
  have hse2 := wo_sea hO c hc
  refine ev_ald0 1 dX12_reserve_0 rfl ?_
  refine ev_ild1 2 dX12_reserve_1 rfl ?_
  refine tc_V1 5 14 dX12_reserve_2 lkv_X12_151 (tr40 hT) rfl rfl (by first | decide | omega) (Nat.le_of_ble_eq_true rfl) (isCourse_ok hT hO hM (by omega)) ?_
  refine tj_if_ne 12 8 dX12_reserve_5 (by decide) rfl (by first | exact TR.rng hT _ _ _ | exact R31_of _ | exact bi_R _ | (constructor <;> omega)) (fun c5 => ?_) (fun c5 => ?_)
  · skip
    refine ev_ild2 13 dX12_reserve_12 rfl ?_
    refine tj_iconst 14 dX12_reserve_13 rfl ?_
    refine tj_iconst 15 dX12_reserve_14 rfl ?_
    refine tc_S3 18 dX12_reserve_15 lks_X12_96 rfl (by first | decide | omega) (Nat.le_of_ble_eq_true rfl) (in_ok (by first | exact TR.rng hT _ _ _ | exact R31_of _ | exact bi_R _ | (constructor <;> omega)) (by first | exact TR.rng hT _ _ _ | exact R31_of _ | exact bi_R _ | (constructor <;> omega)) (by first | exact TR.rng hT _ _ _ | exact R31_of _ | exact bi_R _ | (constructor <;> omega)) (by omega)) ?_
    refine tj_if_eq 25 21 dX12_reserve_18 (by decide) rfl (by first | exact TR.rng hT _ _ _ | exact R31_of _ | exact bi_R _ | (constructor <;> omega)) (fun c18 => ?_) (fun c18 => ?_)
    · exact False.elim (by omega)
    · skip
      refine ev_ild3 22 dX12_reserve_21 rfl ?_
      refine tj_if_ge 29 25 dX12_reserve_22 (by decide) rfl (by first | exact TR.rng hT _ _ _ | exact R31_of _ | exact bi_R _ | (constructor <;> omega)) (fun c22 => ?_) (fun c22 => ?_)
      · skip
        refine tj_iconst 30 dX12_reserve_29 rfl ?_
        refine ev_ist4 32 dX12_reserve_30 rfl (by decide) rfl ?_
        refine ev_ild4 34 dX12_reserve_32 rfl ?_
        refine tj_if_ne 58 37 dX12_reserve_34 (by decide) rfl (by first | exact TR.rng hT _ _ _ | exact R31_of _ | exact bi_R _ | (constructor <;> omega)) (fun c34 => ?_) (fun c34 => ?_)
        · exact False.elim (by omega)
        · skip
          refine ev_ild3 38 dX12_reserve_37 rfl ?_
          refine ev_ald0 39 dX12_reserve_38 rfl ?_
          refine ev_getfield 42 14 5 fl_X12_13_14 (tr40 hT) rfl dX12_reserve_39 rfl ?_
          refine ev_ild1 43 dX12_reserve_42 rfl ?_
          refine tv_iald 44 (tr45 hT) (c) (by omega) (by omega) (by omega) dX12_reserve_43 rfl ?_
          refine ev_ald0 45 dX12_reserve_44 rfl ?_
          refine ev_ild1 46 dX12_reserve_45 rfl ?_
          refine ev_ild2 47 dX12_reserve_46 rfl ?_
          refine tc_V2 50 14 dX12_reserve_47 lkv_X12_196 (tr40 hT) rfl rfl (by first | decide | omega) (Nat.le_of_ble_eq_true rfl) (c_X12_reservedForOthers hT hO hM (by omega) (by omega)) ?_
          refine tj_isub 51 dX12_reserve_50 rfl ?_
          refine tj_icmp_le 58 54 dX12_reserve_51 (by decide) rfl (by first | exact TR.rng hT _ _ _ | exact R31_of _ | exact bi_R _ | (constructor <;> omega)) (by first | exact TR.rng hT _ _ _ | exact R31_of _ | exact bi_R _ | (constructor <;> omega)) (fun c51 => ?_) (fun c51 => ?_)
          · exact False.elim (by omega)
          · skip
            refine tj_iconst 55 dX12_reserve_54 rfl ?_
            refine ev_goto 60 dX12_reserve_55 (by decide) ?_
            refine ev_ist4 62 dX12_reserve_60 rfl (by decide) rfl ?_
            refine ev_ald0 63 dX12_reserve_62 rfl ?_
            refine ev_ild4 65 dX12_reserve_63 rfl ?_
            refine tm_V1 68 14 dX12_reserve_65 lkv_X12_144 (tr40 hT) rfl rfl (by first | decide | omega) (Nat.le_of_ble_eq_true rfl) (goes_n hT (by omega)) (fun h X1 hT hP65 => ?_)
            have hM1 := hM
            have hM : RM O X1 := by rw [hP65]; exact rm_th hM1 _
            have q0 := rm_nC hM
            have q2 := rm_nS hM
            refine tj_if_ne 73 71 dX12_reserve_68 (by decide) rfl (by first | exact TR.rng hT _ _ _ | exact R31_of _ | exact bi_R _ | (constructor <;> omega)) (fun c68 => ?_) (fun c68 => ?_)
            · exact False.elim (by omega)
            · skip
              refine tj_iconst 72 dX12_reserve_71 rfl ?_
              exact ev_ireturn (uq_i (by first | rfl | omega | exact bi_dt (by omega) | exact bi_df (by omega) | (skip)) hT (by assumption)) rfl dX12_reserve_72
      · exact False.elim (by omega)
  · exact False.elim (by omega)
set_option maxRecDepth 100000 in
set_option maxHeartbeats 4000000 in
theorem c_X12_reserve_ok {g : Gt} {α : AL} {ν : Nat → Nat → Bool} {X : XM} {h : AH} (hT : TR g α ν X h) {O : XM} (hO : WO O) (hM : RM O X) {c : Nat} (hc : (c : Int) < nC O) {m : Nat} (hm : m < 4) {a2 : Int} (ha2 : R31 a2) (h0 : 0 ≤ a2) (hn : a2 ≤ O 12 c 2 - rsO O c m 4) : Mu g α ν M_X12_reserve 27 [.ref (α 40 0), .int (J (c : Int)), .int (J (m : Int)), .int (J a2)] h (some (.int (J (O 13 c m)))) (fun X' => RM (gv (xs O 13 c m a2)) X' ∧ CZ X X' 0) := by
  refine mu_of rfl rfl (ls := [some (.ref (α 40 0)), some (.int (J (c : Int))), some (.int (J (m : Int))), some (.int (J a2)), none, none]) rfl (Nat.le_of_ble_eq_true rfl) ?_
  show Ev g M_X12_reserve 27 0 [some (.ref (α 40 0)), some (.int (J (c : Int))), some (.int (J (m : Int))), some (.int (J a2)), none, none] [] h 0 0 (UQ g α ν (some (.int (J (O 13 c m)))) (fun X' => RM (gv (xs O 13 c m a2)) X' ∧ CZ X X' 0))
  have q0 := rm_nC hM
  have q1 := wo_nC hO
  have q2 := rm_nS hM
  have q3 := wo_nS hO
  have hro := rsO_R hO hc m 4 (by omega)
  have hse := rm_sea hM c hc
  have hse2 := wo_sea hO c hc
  refine ev_ald0 1 dX12_reserve_0 rfl ?_
  refine ev_ild1 2 dX12_reserve_1 rfl ?_
  refine tc_V1 5 14 dX12_reserve_2 lkv_X12_151 (tr40 hT) rfl rfl (by first | decide | omega) (Nat.le_of_ble_eq_true rfl) (isCourse_ok hT hO hM (by omega)) ?_
  refine tj_if_ne 12 8 dX12_reserve_5 (by decide) rfl (by first | exact TR.rng hT _ _ _ | exact R31_of _ | exact bi_R _ | (constructor <;> omega)) (fun c5 => ?_) (fun c5 => ?_)
  · skip
    refine ev_ild2 13 dX12_reserve_12 rfl ?_
    refine tj_iconst 14 dX12_reserve_13 rfl ?_
    refine tj_iconst 15 dX12_reserve_14 rfl ?_
    refine tc_S3 18 dX12_reserve_15 lks_X12_96 rfl (by first | decide | omega) (Nat.le_of_ble_eq_true rfl) (in_ok (by first | exact TR.rng hT _ _ _ | exact R31_of _ | exact bi_R _ | (constructor <;> omega)) (by first | exact TR.rng hT _ _ _ | exact R31_of _ | exact bi_R _ | (constructor <;> omega)) (by first | exact TR.rng hT _ _ _ | exact R31_of _ | exact bi_R _ | (constructor <;> omega)) (by omega)) ?_
    refine tj_if_eq 25 21 dX12_reserve_18 (by decide) rfl (by first | exact TR.rng hT _ _ _ | exact R31_of _ | exact bi_R _ | (constructor <;> omega)) (fun c18 => ?_) (fun c18 => ?_)
    · exact False.elim (by omega)
    · skip
      refine ev_ild3 22 dX12_reserve_21 rfl ?_
      refine tj_if_ge 29 25 dX12_reserve_22 (by decide) rfl (by first | exact TR.rng hT _ _ _ | exact R31_of _ | exact bi_R _ | (constructor <;> omega)) (fun c22 => ?_) (fun c22 => ?_)
      · skip
        refine tj_iconst 30 dX12_reserve_29 rfl ?_
        refine ev_ist4 32 dX12_reserve_30 rfl (by decide) rfl ?_
        refine ev_ild4 34 dX12_reserve_32 rfl ?_
        refine tj_if_ne 58 37 dX12_reserve_34 (by decide) rfl (by first | exact TR.rng hT _ _ _ | exact R31_of _ | exact bi_R _ | (constructor <;> omega)) (fun c34 => ?_) (fun c34 => ?_)
        · exact False.elim (by omega)
        · skip
          refine ev_ild3 38 dX12_reserve_37 rfl ?_
          refine ev_ald0 39 dX12_reserve_38 rfl ?_
          refine ev_getfield 42 14 5 fl_X12_13_14 (tr40 hT) rfl dX12_reserve_39 rfl ?_
          refine ev_ild1 43 dX12_reserve_42 rfl ?_
          refine tv_iald 44 (tr45 hT) (c) (by omega) (by omega) (by omega) dX12_reserve_43 rfl ?_
          refine ev_ald0 45 dX12_reserve_44 rfl ?_
          refine ev_ild1 46 dX12_reserve_45 rfl ?_
          refine ev_ild2 47 dX12_reserve_46 rfl ?_
          refine tc_V2 50 14 dX12_reserve_47 lkv_X12_196 (tr40 hT) rfl rfl (by first | decide | omega) (Nat.le_of_ble_eq_true rfl) (c_X12_reservedForOthers hT hO hM (by omega) (by omega)) ?_
          refine tj_isub 51 dX12_reserve_50 rfl ?_
          refine tj_icmp_le 58 54 dX12_reserve_51 (by decide) rfl (by first | exact TR.rng hT _ _ _ | exact R31_of _ | exact bi_R _ | (constructor <;> omega)) (by first | exact TR.rng hT _ _ _ | exact R31_of _ | exact bi_R _ | (constructor <;> omega)) (fun c51 => ?_) (fun c51 => ?_)
          · skip
            refine ev_ild4 60 dX12_reserve_58 rfl ?_
            refine ev_ist4 62 dX12_reserve_60 rfl (by decide) rfl ?_
            refine ev_ald0 63 dX12_reserve_62 rfl ?_
            refine ev_ild4 65 dX12_reserve_63 rfl ?_
            refine tm_V1 68 14 dX12_reserve_65 lkv_X12_144 (tr40 hT) rfl rfl (by first | decide | omega) (Nat.le_of_ble_eq_true rfl) (goes_0 hT) (fun h X1 hT hP65 => ?_)
            have hM1 := hM
            have hM : RM O X1 := by rw [hP65]; exact rm_th hM1 _
            have q0 := rm_nC hM
            have q2 := rm_nS hM
            refine tj_if_ne 73 71 dX12_reserve_68 (by decide) rfl (by first | exact TR.rng hT _ _ _ | exact R31_of _ | exact bi_R _ | (constructor <;> omega)) (fun c68 => ?_) (fun c68 => ?_)
            · skip
              refine ev_ald0 74 dX12_reserve_73 rfl ?_
              refine ev_getfield 77 14 6 fl_X12_16_14 (tr40 hT) rfl dX12_reserve_74 rfl ?_
              refine tj_iconst 78 dX12_reserve_77 rfl ?_
              refine ev_ild1 79 dX12_reserve_78 rfl ?_
              refine tj_imul 80 dX12_reserve_79 rfl ?_
              refine ev_ild2 81 dX12_reserve_80 rfl ?_
              refine tj_iadd 82 dX12_reserve_81 rfl ?_
              refine tv_iald 83 (tr46 hT) (((4 * c) + m)) (by omega) (by omega) (by omega) dX12_reserve_82 rfl ?_
              refine ev_ist5 85 dX12_reserve_83 rfl (by decide) rfl ?_
              refine ev_ald0 86 dX12_reserve_85 rfl ?_
              refine ev_getfield 89 14 6 fl_X12_16_14 (tr40 hT) rfl dX12_reserve_86 rfl ?_
              refine tj_iconst 90 dX12_reserve_89 rfl ?_
              refine ev_ild1 91 dX12_reserve_90 rfl ?_
              refine tj_imul 92 dX12_reserve_91 rfl ?_
              refine ev_ild2 93 dX12_reserve_92 rfl ?_
              refine tj_iadd 94 dX12_reserve_93 rfl ?_
              refine ev_ild3 95 dX12_reserve_94 rfl ?_
              refine tv_iast 96 hT (tv46 hT) (fun _ => rfl) (((4 * c) + m)) (by omega) (by omega) (by omega) (by first | exact TR.rng hT _ _ _ | exact R31_of _ | exact bi_R _ | (constructor <;> omega)) dX12_reserve_95 rfl (fun h hT => ?_)
              obtain ⟨X3, hX3⟩ : ∃ Z, Z = xs X1 46 0 (4 * c + m) a2 := ⟨_, rfl⟩
              rw [← hX3] at hT
              have hM3 : RM (xs O 13 c m a2) X3 := by rw [hX3]; exact rm_rs hM hc hm (fun k _ _ q => xs_nk q) (fun j => xs_at _ _ _ _ _ _)
              refine ev_ald0 97 dX12_reserve_96 rfl ?_
              refine tmv_V0 100 14 dX12_reserve_97 lkv_X12_193 (tr40 hT) rfl rfl (by first | decide | omega) (Nat.le_of_ble_eq_true rfl) (c_X12_givesOut hT (wo_rs hO (by omega)) hM3) (fun h X1 hT hP97 => ?_)
              refine ev_ild5 102 dX12_reserve_100 rfl ?_
              exact ev_ireturn (uq_i (by first | rfl | omega | exact bi_dt (by omega) | exact bi_df (by omega) | (exact rm_res hM c m hc hm)) hT (by exact ⟨hP97.1, CZ.fm (by rw [hX3, hP65]; exact (CZ.go X 0).st (by decide)) hP97.2⟩)) rfl dX12_reserve_102
            · exact False.elim (by omega)
          · exact False.elim (by omega)
      · exact False.elim (by omega)
  · exact False.elim (by omega)
