/-! THE REFERENCE MAKES FORMULAS, AND ENROLLS -/
/-- formula n is written, and counted -/
def addF (X : XM) (n : Nat) (k a b c e : Int) : XM := xs (xs (xs (xs (xs (xs X 58 0 n k) 59 0 n a) 60 0 n b) 61 0 n c) 62 0 n e) 40 0 17 ((n : Int) + 1)
theorem rm_addF {O O' X : XM} {n : Nat} {y : Nat → Int} {k a b c e : Int} (h : RM O X) (hO : WO O) (hn : nF O = (n : Int)) (hP : MKX O (16, n) (fun _ _ => y) 2 O') (hd : e = y 0) (hy0 : y 9 = 0 → k = 0 ∧ a = y 1 ∧ b = y 2) (hy1 : y 9 = 1 → k = 1 ∧ a = y 1) (hy2 : y 9 = 2 → k = 2 ∧ a = y 1) (hy3 : y 9 = 3 → a = y 2 ∧ b = y 3 ∧ k = (if y 4 = -1 then (if y 1 = 2 then 3 else 4) else 5) ∧ (y 4 ≠ -1 → c = y 4)) (hy4 : y 9 = 4 → k = 6 ∧ a = y 1) : RM O' (addF X n k a b c e) := by
  refine rm_mkF (k0 := k) (v1 := a) (v2 := b) (v3 := c) (v4 := e) hd hy0 hy1 hy2 hy3 hy4 h hO hn hP (fun k' _ _ q1 q2 q3 q4 q5 => ?_) (fun j hj => ?_) (fun j => ?_) (fun j => ?_) (fun j => ?_) (fun j => ?_) (fun j => ?_)
  · unfold addF; rw [xs_nk (by omega), xs_nk q5, xs_nk q4, xs_nk q3, xs_nk q2, xs_nk q1]
  · unfold addF; rw [xs_at, xs_nk (by decide), xs_nk (by decide), xs_nk (by decide), xs_nk (by decide), xs_nk (by decide)]
  · unfold addF; rw [xs_nk (by decide), xs_nk (by decide), xs_nk (by decide), xs_nk (by decide), xs_nk (by decide), xs_at]
  · unfold addF; rw [xs_nk (by decide), xs_nk (by decide), xs_nk (by decide), xs_nk (by decide), xs_at, xs_nk (by decide)]
  · unfold addF; rw [xs_nk (by decide), xs_nk (by decide), xs_nk (by decide), xs_at, xs_nk (by decide), xs_nk (by decide)]
  · unfold addF; rw [xs_nk (by decide), xs_nk (by decide), xs_at, xs_nk (by decide), xs_nk (by decide), xs_nk (by decide)]
  · unfold addF; rw [xs_nk (by decide), xs_at, xs_nk (by decide), xs_nk (by decide), xs_nk (by decide), xs_nk (by decide)]
theorem cz_addF {X Y : XM} {n : Nat} {k a b c e : Int} (h : CZ X Y 0) : CZ X (addF Y n k a b c e) 0 := (((((h.st (by decide)).st (by decide)).st (by decide)).st (by decide)).st (by decide)).x4 (by decide)
set_option maxRecDepth 100000 in
set_option maxHeartbeats 4000000 in
theorem c_X12_add {g : Gt} {α : AL} {ν : Nat → Nat → Bool} {X : XM} {h : AH} (hT : TR g α ν X h) {n : Nat} (hn : n < 60) (q17 : X 40 0 17 = (n : Int)) {a0 : Int} (ha0 : R31 a0) {a1 : Int} (ha1 : R31 a1) {a2 : Int} (ha2 : R31 a2) {a3 : Int} (ha3 : R31 a3) {a4 : Int} (ha4 : R31 a4) : Mu g α ν M_X12_add 0 [.ref (α 40 0), .int (J a0), .int (J a1), .int (J a2), .int (J a3), .int (J a4)] h (some (.int (J (n : Int)))) (fun X' => X' = addF X n a0 a1 a2 a3 a4) := by
  refine mu_of rfl rfl (ls := [some (.ref (α 40 0)), some (.int (J a0)), some (.int (J a1)), some (.int (J a2)), some (.int (J a3)), some (.int (J a4))]) rfl (Nat.le_of_ble_eq_true rfl) ?_
  show Ev g M_X12_add 0 0 [some (.ref (α 40 0)), some (.int (J a0)), some (.int (J a1)), some (.int (J a2)), some (.int (J a3)), some (.int (J a4))] [] h 0 0 (UQ g α ν (some (.int (J (n : Int)))) (fun X' => X' = addF X n a0 a1 a2 a3 a4))
  refine ev_ald0 1 dX12_add_0 rfl ?_
  refine ev_getfield 4 14 18 fl_X12_46_14 (tr40 hT) rfl dX12_add_1 rfl ?_
  refine ev_ald0 5 dX12_add_4 rfl ?_
  refine ev_getfield 8 14 17 fl_X12_103_14 (tr40 hT) rfl dX12_add_5 rfl ?_
  refine ev_ild1 9 dX12_add_8 rfl ?_
  refine tv_iast 10 hT (tv58 hT) (fun _ => rfl) (n) (by omega) (by omega) (by omega) (by first | exact TR.rng hT _ _ _ | exact R31_of _ | exact bi_R _ | (constructor <;> omega)) dX12_add_9 rfl (fun h hT => ?_)
  obtain ⟨X1, hX1⟩ : ∃ Z, Z = xs X 58 0 n a0 := ⟨_, rfl⟩
  rw [← hX1] at hT
  have q17 : X1 40 0 17 = (n : Int) := by rw [hX1, xs_nk (by decide)]; exact q17
  refine ev_ald0 11 dX12_add_10 rfl ?_
  refine ev_getfield 14 14 19 fl_X12_49_14 (tr40 hT) rfl dX12_add_11 rfl ?_
  refine ev_ald0 15 dX12_add_14 rfl ?_
  refine ev_getfield 18 14 17 fl_X12_103_14 (tr40 hT) rfl dX12_add_15 rfl ?_
  refine ev_ild2 19 dX12_add_18 rfl ?_
  refine tv_iast 20 hT (tv59 hT) (fun _ => rfl) (n) (by omega) (by omega) (by omega) (by first | exact TR.rng hT _ _ _ | exact R31_of _ | exact bi_R _ | (constructor <;> omega)) dX12_add_19 rfl (fun h hT => ?_)
  obtain ⟨X3, hX3⟩ : ∃ Z, Z = xs X1 59 0 n a1 := ⟨_, rfl⟩
  rw [← hX3] at hT
  have q17 : X3 40 0 17 = (n : Int) := by rw [hX3, xs_nk (by decide)]; exact q17
  refine ev_ald0 21 dX12_add_20 rfl ?_
  refine ev_getfield 24 14 20 fl_X12_52_14 (tr40 hT) rfl dX12_add_21 rfl ?_
  refine ev_ald0 25 dX12_add_24 rfl ?_
  refine ev_getfield 28 14 17 fl_X12_103_14 (tr40 hT) rfl dX12_add_25 rfl ?_
  refine ev_ild3 29 dX12_add_28 rfl ?_
  refine tv_iast 30 hT (tv60 hT) (fun _ => rfl) (n) (by omega) (by omega) (by omega) (by first | exact TR.rng hT _ _ _ | exact R31_of _ | exact bi_R _ | (constructor <;> omega)) dX12_add_29 rfl (fun h hT => ?_)
  obtain ⟨X4, hX4⟩ : ∃ Z, Z = xs X3 60 0 n a2 := ⟨_, rfl⟩
  rw [← hX4] at hT
  have q17 : X4 40 0 17 = (n : Int) := by rw [hX4, xs_nk (by decide)]; exact q17
  refine ev_ald0 31 dX12_add_30 rfl ?_
  refine ev_getfield 34 14 21 fl_X12_55_14 (tr40 hT) rfl dX12_add_31 rfl ?_
  refine ev_ald0 35 dX12_add_34 rfl ?_
  refine ev_getfield 38 14 17 fl_X12_103_14 (tr40 hT) rfl dX12_add_35 rfl ?_
  refine ev_ild4 40 dX12_add_38 rfl ?_
  refine tv_iast 41 hT (tv61 hT) (fun _ => rfl) (n) (by omega) (by omega) (by omega) (by first | exact TR.rng hT _ _ _ | exact R31_of _ | exact bi_R _ | (constructor <;> omega)) dX12_add_40 rfl (fun h hT => ?_)
  obtain ⟨X5, hX5⟩ : ∃ Z, Z = xs X4 61 0 n a3 := ⟨_, rfl⟩
  rw [← hX5] at hT
  have q17 : X5 40 0 17 = (n : Int) := by rw [hX5, xs_nk (by decide)]; exact q17
  refine ev_ald0 42 dX12_add_41 rfl ?_
  refine ev_getfield 45 14 22 fl_X12_58_14 (tr40 hT) rfl dX12_add_42 rfl ?_
  refine ev_ald0 46 dX12_add_45 rfl ?_
  refine ev_getfield 49 14 17 fl_X12_103_14 (tr40 hT) rfl dX12_add_46 rfl ?_
  refine ev_ild5 51 dX12_add_49 rfl ?_
  refine tv_iast 52 hT (tv62 hT) (fun _ => rfl) (n) (by omega) (by omega) (by omega) (by first | exact TR.rng hT _ _ _ | exact R31_of _ | exact bi_R _ | (constructor <;> omega)) dX12_add_51 rfl (fun h hT => ?_)
  obtain ⟨X6, hX6⟩ : ∃ Z, Z = xs X5 62 0 n a4 := ⟨_, rfl⟩
  rw [← hX6] at hT
  have q17 : X6 40 0 17 = (n : Int) := by rw [hX6, xs_nk (by decide)]; exact q17
  refine ev_ald0 53 dX12_add_52 rfl ?_
  refine ev_dup 54 dX12_add_53 rfl rfl ?_
  refine ev_getfield 57 14 17 fl_X12_103_14 (tr40 hT) rfl dX12_add_54 rfl ?_
  refine tj_iconst 58 dX12_add_57 rfl ?_
  refine tj_iadd 59 dX12_add_58 rfl ?_
  refine tv_puti 62 17 .int fl_X12_103_14 fp_14_17 hT (tv40 hT) (fun _ => rfl) rfl (Nat.le_of_ble_eq_true rfl) rfl rfl (by first | exact TR.rng hT _ _ _ | exact R31_of _ | exact bi_R _ | (constructor <;> omega)) dX12_add_59 rfl (fun h hT => ?_)
  obtain ⟨X7, hX7⟩ : ∃ Z, Z = xs X6 40 0 17 (X6 40 0 17 + 1) := ⟨_, rfl⟩
  rw [← hX7] at hT
  refine ev_ald0 63 dX12_add_62 rfl ?_
  refine ev_getfield 66 14 17 fl_X12_103_14 (tr40 hT) rfl dX12_add_63 rfl ?_
  refine tj_iconst 67 dX12_add_66 rfl ?_
  refine tj_isub 68 dX12_add_67 rfl ?_
  exact ev_ireturn (uq_i (by first | rfl | omega | exact bi_dt (by omega) | exact bi_df (by omega) | (rw [hX7, xs_at, if_pos rfl]; omega)) hT (by rw [hX7, q17, hX6, hX5, hX4, hX3, hX1]; rfl)) rfl dX12_add_68
set_option maxRecDepth 100000 in
set_option maxHeartbeats 4000000 in
theorem c_X12_markFormula_b1 {g : Gt} {α : AL} {ν : Nat → Nat → Bool} {X : XM} {h : AH} (hT : TR g α ν X h) {O : XM} (hO : WO O) (hM : RM O X) {b : Int} (hb : R31 b) (hn : ¬ (0 ≤ b ∧ b < nC O)) {a1 : Int} (ha1 : R31 a1) : Mu g α ν M_X12_markFormula 27 [.ref (α 40 0), .int (J b), .int (J a1)] h (some (.int (J (0)))) (fun X' => X' = xs X 40 0 0 1) := by
  refine mu_of rfl rfl (ls := [some (.ref (α 40 0)), some (.int (J b)), some (.int (J a1))]) rfl (Nat.le_of_ble_eq_true rfl) ?_
  show Ev g M_X12_markFormula 27 0 [some (.ref (α 40 0)), some (.int (J b)), some (.int (J a1))] [] h 0 0 (UQ g α ν (some (.int (J (0)))) (fun X' => X' = xs X 40 0 0 1))
  have q0 := rm_nC hM
  have q1 := wo_nC hO
  have q2 := rm_nS hM
  have q3 := wo_nS hO
  refine ev_ald0 1 dX12_markFormula_0 rfl ?_
  refine ev_ald0 2 dX12_markFormula_1 rfl ?_
  refine ev_ild1 3 dX12_markFormula_2 rfl ?_
  refine tc_V1 6 14 dX12_markFormula_3 lkv_X12_151 (tr40 hT) rfl rfl (by first | decide | omega) (Nat.le_of_ble_eq_true rfl) (isCourse_no hT hO hM hb hn) ?_
  refine tj_if_ne 13 9 dX12_markFormula_6 (by decide) rfl (by first | exact TR.rng hT _ _ _ | exact R31_of _ | exact bi_R _ | (constructor <;> omega)) (fun c6 => ?_) (fun c6 => ?_)
  · exact False.elim (by omega)
  · skip
    refine tj_iconst 10 dX12_markFormula_9 rfl ?_
    refine ev_goto 41 dX12_markFormula_10 (by decide) ?_
    refine tm_V1 44 14 dX12_markFormula_41 lkv_X12_144 (tr40 hT) rfl rfl (by first | decide | omega) (Nat.le_of_ble_eq_true rfl) (goes_n hT (by omega)) (fun h X1 hT hP41 => ?_)
    have hM1 := hM
    have hM : RM O X1 := by rw [hP41]; exact rm_th hM1 _
    have q0 := rm_nC hM
    have q2 := rm_nS hM
    refine tj_if_ne 49 47 dX12_markFormula_44 (by decide) rfl (by first | exact TR.rng hT _ _ _ | exact R31_of _ | exact bi_R _ | (constructor <;> omega)) (fun c44 => ?_) (fun c44 => ?_)
    · exact False.elim (by omega)
    · skip
      refine tj_iconst 48 dX12_markFormula_47 rfl ?_
      exact ev_ireturn (uq_i (by first | rfl | omega | exact bi_dt (by omega) | exact bi_df (by omega) | (skip)) hT (by assumption)) rfl dX12_markFormula_48
set_option maxRecDepth 100000 in
set_option maxHeartbeats 4000000 in
theorem c_X12_markFormula_x2 {g : Gt} {α : AL} {ν : Nat → Nat → Bool} {X : XM} {h : AH} (hT : TR g α ν X h) {O : XM} (hO : WO O) (hM : RM O X) {c : Nat} (hc : (c : Int) < nC O) {a1 : Int} (ha1 : R31 a1) (hm : ¬ (0 ≤ a1 ∧ a1 ≤ 100)) : Mu g α ν M_X12_markFormula 27 [.ref (α 40 0), .int (J (c : Int)), .int (J a1)] h (some (.int (J (0)))) (fun X' => X' = xs X 40 0 0 2) := by
  refine mu_of rfl rfl (ls := [some (.ref (α 40 0)), some (.int (J (c : Int))), some (.int (J a1))]) rfl (Nat.le_of_ble_eq_true rfl) ?_
  show Ev g M_X12_markFormula 27 0 [some (.ref (α 40 0)), some (.int (J (c : Int))), some (.int (J a1))] [] h 0 0 (UQ g α ν (some (.int (J (0)))) (fun X' => X' = xs X 40 0 0 2))
  have q0 := rm_nC hM
  have q1 := wo_nC hO
  have q2 := rm_nS hM
  have q3 := wo_nS hO
  refine ev_ald0 1 dX12_markFormula_0 rfl ?_
  refine ev_ald0 2 dX12_markFormula_1 rfl ?_
  refine ev_ild1 3 dX12_markFormula_2 rfl ?_
  refine tc_V1 6 14 dX12_markFormula_3 lkv_X12_151 (tr40 hT) rfl rfl (by first | decide | omega) (Nat.le_of_ble_eq_true rfl) (isCourse_ok hT hO hM (by omega)) ?_
  refine tj_if_ne 13 9 dX12_markFormula_6 (by decide) rfl (by first | exact TR.rng hT _ _ _ | exact R31_of _ | exact bi_R _ | (constructor <;> omega)) (fun c6 => ?_) (fun c6 => ?_)
  · skip
    refine ev_ild2 14 dX12_markFormula_13 rfl ?_
    refine tj_iconst 15 dX12_markFormula_14 rfl ?_
    refine tj_bipush 17 dX12_markFormula_15 (by decide) rfl ?_
    refine tc_S3 20 dX12_markFormula_17 lks_X12_96 rfl (by first | decide | omega) (Nat.le_of_ble_eq_true rfl) (in_no (by first | exact TR.rng hT _ _ _ | exact R31_of _ | exact bi_R _ | (constructor <;> omega)) (by first | exact TR.rng hT _ _ _ | exact R31_of _ | exact bi_R _ | (constructor <;> omega)) (by first | exact TR.rng hT _ _ _ | exact R31_of _ | exact bi_R _ | (constructor <;> omega)) (by omega)) ?_
    refine tj_if_ne 27 23 dX12_markFormula_20 (by decide) rfl (by first | exact TR.rng hT _ _ _ | exact R31_of _ | exact bi_R _ | (constructor <;> omega)) (fun c20 => ?_) (fun c20 => ?_)
    · exact False.elim (by omega)
    · skip
      refine tj_iconst 24 dX12_markFormula_23 rfl ?_
      refine ev_goto 41 dX12_markFormula_24 (by decide) ?_
      refine tm_V1 44 14 dX12_markFormula_41 lkv_X12_144 (tr40 hT) rfl rfl (by first | decide | omega) (Nat.le_of_ble_eq_true rfl) (goes_n hT (by omega)) (fun h X1 hT hP41 => ?_)
      have hM1 := hM
      have hM : RM O X1 := by rw [hP41]; exact rm_th hM1 _
      have q0 := rm_nC hM
      have q2 := rm_nS hM
      refine tj_if_ne 49 47 dX12_markFormula_44 (by decide) rfl (by first | exact TR.rng hT _ _ _ | exact R31_of _ | exact bi_R _ | (constructor <;> omega)) (fun c44 => ?_) (fun c44 => ?_)
      · exact False.elim (by omega)
      · skip
        refine tj_iconst 48 dX12_markFormula_47 rfl ?_
        exact ev_ireturn (uq_i (by first | rfl | omega | exact bi_dt (by omega) | exact bi_df (by omega) | (skip)) hT (by assumption)) rfl dX12_markFormula_48
  · exact False.elim (by omega)
set_option maxRecDepth 100000 in
set_option maxHeartbeats 4000000 in
theorem c_X12_markFormula_x3 {g : Gt} {α : AL} {ν : Nat → Nat → Bool} {X : XM} {h : AH} (hT : TR g α ν X h) {O : XM} (hO : WO O) (hM : RM O X) {c : Nat} (hc : (c : Int) < nC O) {a1 : Int} (ha1 : R31 a1) (h1 : 0 ≤ a1 ∧ a1 ≤ 100) (hm : ¬ nF O < 60) : Mu g α ν M_X12_markFormula 27 [.ref (α 40 0), .int (J (c : Int)), .int (J a1)] h (some (.int (J (0)))) (fun X' => X' = xs X 40 0 0 3) := by
  refine mu_of rfl rfl (ls := [some (.ref (α 40 0)), some (.int (J (c : Int))), some (.int (J a1))]) rfl (Nat.le_of_ble_eq_true rfl) ?_
  show Ev g M_X12_markFormula 27 0 [some (.ref (α 40 0)), some (.int (J (c : Int))), some (.int (J a1))] [] h 0 0 (UQ g α ν (some (.int (J (0)))) (fun X' => X' = xs X 40 0 0 3))
  have q0 := rm_nC hM
  have q1 := wo_nC hO
  have q2 := rm_nS hM
  have q3 := wo_nS hO
  have qf := wo_nF hO
  have qr := wo_nR hO
  have qfM := rm_nF hM
  have qrM := rm_nR hM
  refine ev_ald0 1 dX12_markFormula_0 rfl ?_
  refine ev_ald0 2 dX12_markFormula_1 rfl ?_
  refine ev_ild1 3 dX12_markFormula_2 rfl ?_
  refine tc_V1 6 14 dX12_markFormula_3 lkv_X12_151 (tr40 hT) rfl rfl (by first | decide | omega) (Nat.le_of_ble_eq_true rfl) (isCourse_ok hT hO hM (by omega)) ?_
  refine tj_if_ne 13 9 dX12_markFormula_6 (by decide) rfl (by first | exact TR.rng hT _ _ _ | exact R31_of _ | exact bi_R _ | (constructor <;> omega)) (fun c6 => ?_) (fun c6 => ?_)
  · skip
    refine ev_ild2 14 dX12_markFormula_13 rfl ?_
    refine tj_iconst 15 dX12_markFormula_14 rfl ?_
    refine tj_bipush 17 dX12_markFormula_15 (by decide) rfl ?_
    refine tc_S3 20 dX12_markFormula_17 lks_X12_96 rfl (by first | decide | omega) (Nat.le_of_ble_eq_true rfl) (in_ok (by first | exact TR.rng hT _ _ _ | exact R31_of _ | exact bi_R _ | (constructor <;> omega)) (by first | exact TR.rng hT _ _ _ | exact R31_of _ | exact bi_R _ | (constructor <;> omega)) (by first | exact TR.rng hT _ _ _ | exact R31_of _ | exact bi_R _ | (constructor <;> omega)) (by omega)) ?_
    refine tj_if_ne 27 23 dX12_markFormula_20 (by decide) rfl (by first | exact TR.rng hT _ _ _ | exact R31_of _ | exact bi_R _ | (constructor <;> omega)) (fun c20 => ?_) (fun c20 => ?_)
    · skip
      refine ev_ald0 28 dX12_markFormula_27 rfl ?_
      refine ev_getfield 31 14 17 fl_X12_103_14 (tr40 hT) rfl dX12_markFormula_28 rfl ?_
      refine tj_bipush 33 dX12_markFormula_31 (by decide) rfl ?_
      refine tj_icmp_ne 40 36 dX12_markFormula_33 (by decide) rfl (by first | exact TR.rng hT _ _ _ | exact R31_of _ | exact bi_R _ | (constructor <;> omega)) (by first | exact TR.rng hT _ _ _ | exact R31_of _ | exact bi_R _ | (constructor <;> omega)) (fun c33 => ?_) (fun c33 => ?_)
      · exact False.elim (by omega)
      · skip
        refine tj_iconst 37 dX12_markFormula_36 rfl ?_
        refine ev_goto 41 dX12_markFormula_37 (by decide) ?_
        refine tm_V1 44 14 dX12_markFormula_41 lkv_X12_144 (tr40 hT) rfl rfl (by first | decide | omega) (Nat.le_of_ble_eq_true rfl) (goes_n hT (by omega)) (fun h X1 hT hP41 => ?_)
        have hM1 := hM
        have hM : RM O X1 := by rw [hP41]; exact rm_th hM1 _
        have q0 := rm_nC hM
        have q2 := rm_nS hM
        refine tj_if_ne 49 47 dX12_markFormula_44 (by decide) rfl (by first | exact TR.rng hT _ _ _ | exact R31_of _ | exact bi_R _ | (constructor <;> omega)) (fun c44 => ?_) (fun c44 => ?_)
        · exact False.elim (by omega)
        · skip
          refine tj_iconst 48 dX12_markFormula_47 rfl ?_
          exact ev_ireturn (uq_i (by first | rfl | omega | exact bi_dt (by omega) | exact bi_df (by omega) | (skip)) hT (by assumption)) rfl dX12_markFormula_48
    · exact False.elim (by omega)
  · exact False.elim (by omega)
set_option maxRecDepth 100000 in
set_option maxHeartbeats 4000000 in
theorem c_X12_markFormula_ok {g : Gt} {α : AL} {ν : Nat → Nat → Bool} {X : XM} {h : AH} (hT : TR g α ν X h) {O : XM} (hO : WO O) (hM : RM O X) {c : Nat} (hc : (c : Int) < nC O) {a1 : Int} (ha1 : R31 a1) (h1 : 0 ≤ a1 ∧ a1 ≤ 100) (hm : nF O < 60) {n : Nat} (hn : nF O = (n : Int)) {O' : XM} (hMK : MKX O (16, n) (fun _ _ => yF 0 0 c a1 0 0) 2 O') : Mu g α ν M_X12_markFormula 27 [.ref (α 40 0), .int (J (c : Int)), .int (J a1)] h (some (.int (J (nF O)))) (fun X' => RM O' X' ∧ CZ X X' 0) := by
  refine mu_of rfl rfl (ls := [some (.ref (α 40 0)), some (.int (J (c : Int))), some (.int (J a1))]) rfl (Nat.le_of_ble_eq_true rfl) ?_
  show Ev g M_X12_markFormula 27 0 [some (.ref (α 40 0)), some (.int (J (c : Int))), some (.int (J a1))] [] h 0 0 (UQ g α ν (some (.int (J (nF O)))) (fun X' => RM O' X' ∧ CZ X X' 0))
  have q0 := rm_nC hM
  have q1 := wo_nC hO
  have q2 := rm_nS hM
  have q3 := wo_nS hO
  have qf := wo_nF hO
  have qr := wo_nR hO
  have qfM := rm_nF hM
  have qrM := rm_nR hM
  refine ev_ald0 1 dX12_markFormula_0 rfl ?_
  refine ev_ald0 2 dX12_markFormula_1 rfl ?_
  refine ev_ild1 3 dX12_markFormula_2 rfl ?_
  refine tc_V1 6 14 dX12_markFormula_3 lkv_X12_151 (tr40 hT) rfl rfl (by first | decide | omega) (Nat.le_of_ble_eq_true rfl) (isCourse_ok hT hO hM (by omega)) ?_
  refine tj_if_ne 13 9 dX12_markFormula_6 (by decide) rfl (by first | exact TR.rng hT _ _ _ | exact R31_of _ | exact bi_R _ | (constructor <;> omega)) (fun c6 => ?_) (fun c6 => ?_)
  · skip
    refine ev_ild2 14 dX12_markFormula_13 rfl ?_
    refine tj_iconst 15 dX12_markFormula_14 rfl ?_
    refine tj_bipush 17 dX12_markFormula_15 (by decide) rfl ?_
    refine tc_S3 20 dX12_markFormula_17 lks_X12_96 rfl (by first | decide | omega) (Nat.le_of_ble_eq_true rfl) (in_ok (by first | exact TR.rng hT _ _ _ | exact R31_of _ | exact bi_R _ | (constructor <;> omega)) (by first | exact TR.rng hT _ _ _ | exact R31_of _ | exact bi_R _ | (constructor <;> omega)) (by first | exact TR.rng hT _ _ _ | exact R31_of _ | exact bi_R _ | (constructor <;> omega)) (by omega)) ?_
    refine tj_if_ne 27 23 dX12_markFormula_20 (by decide) rfl (by first | exact TR.rng hT _ _ _ | exact R31_of _ | exact bi_R _ | (constructor <;> omega)) (fun c20 => ?_) (fun c20 => ?_)
    · skip
      refine ev_ald0 28 dX12_markFormula_27 rfl ?_
      refine ev_getfield 31 14 17 fl_X12_103_14 (tr40 hT) rfl dX12_markFormula_28 rfl ?_
      refine tj_bipush 33 dX12_markFormula_31 (by decide) rfl ?_
      refine tj_icmp_ne 40 36 dX12_markFormula_33 (by decide) rfl (by first | exact TR.rng hT _ _ _ | exact R31_of _ | exact bi_R _ | (constructor <;> omega)) (by first | exact TR.rng hT _ _ _ | exact R31_of _ | exact bi_R _ | (constructor <;> omega)) (fun c33 => ?_) (fun c33 => ?_)
      · skip
        refine tj_iconst 41 dX12_markFormula_40 rfl ?_
        refine tm_V1 44 14 dX12_markFormula_41 lkv_X12_144 (tr40 hT) rfl rfl (by first | decide | omega) (Nat.le_of_ble_eq_true rfl) (goes_0 hT) (fun h X1 hT hP41 => ?_)
        have hM1 := hM
        have hM : RM O X1 := by rw [hP41]; exact rm_th hM1 _
        have q0 := rm_nC hM
        have q2 := rm_nS hM
        refine tj_if_ne 49 47 dX12_markFormula_44 (by decide) rfl (by first | exact TR.rng hT _ _ _ | exact R31_of _ | exact bi_R _ | (constructor <;> omega)) (fun c44 => ?_) (fun c44 => ?_)
        · skip
          have qfM := rm_nF hM
          refine ev_ald0 50 dX12_markFormula_49 rfl ?_
          refine tj_iconst 51 dX12_markFormula_50 rfl ?_
          refine ev_ild1 52 dX12_markFormula_51 rfl ?_
          refine ev_ild2 53 dX12_markFormula_52 rfl ?_
          refine tj_iconst 54 dX12_markFormula_53 rfl ?_
          refine tj_iconst 55 dX12_markFormula_54 rfl ?_
          refine tm_V5 58 14 dX12_markFormula_55 lkv_X12_147 (tr40 hT) rfl rfl (by first | decide | omega) (Nat.le_of_ble_eq_true rfl) (c_X12_add hT (n := n) (by omega) (by omega) (by first | exact TR.rng hT _ _ _ | exact R31_of _ | exact bi_R _ | (constructor <;> omega)) (by first | exact TR.rng hT _ _ _ | exact R31_of _ | exact bi_R _ | (constructor <;> omega)) (by first | exact TR.rng hT _ _ _ | exact R31_of _ | exact bi_R _ | (constructor <;> omega)) (by first | exact TR.rng hT _ _ _ | exact R31_of _ | exact bi_R _ | (constructor <;> omega)) (by first | exact TR.rng hT _ _ _ | exact R31_of _ | exact bi_R _ | (constructor <;> omega))) (fun h X1 hT hP55 => ?_)
          exact ev_ireturn (uq_i (by first | rfl | omega | exact bi_dt (by omega) | exact bi_df (by omega) | (rw [hn])) hT (by rw [hP55]; exact ⟨rm_addF hM hO hn hMK rfl (fun z => by first | exact ⟨rfl, rfl, rfl⟩ | exact absurd z (show ¬ (0 : Int) = 0 by decide)) (fun z => by first | exact ⟨rfl, rfl⟩ | exact absurd z (show ¬ (0 : Int) = 1 by decide)) (fun z => by first | exact ⟨rfl, rfl⟩ | exact absurd z (show ¬ (0 : Int) = 2 by decide)) (fun z => by first | exact ⟨rfl, rfl, rfl, fun w => rfl⟩ | exact ⟨rfl, rfl, rfl, fun w => absurd rfl w⟩ | exact ⟨rfl, rfl, (by rw [if_neg (by show ¬ (_ : Int) = -1; omega)]), fun w => rfl⟩ | exact absurd z (show ¬ (0 : Int) = 3 by decide)) (fun z => by first | exact ⟨rfl, rfl⟩ | exact absurd z (show ¬ (0 : Int) = 4 by decide)), cz_addF (by rw [hP41]; exact CZ.go X 0)⟩)) rfl dX12_markFormula_58
        · exact False.elim (by omega)
      · exact False.elim (by omega)
    · exact False.elim (by omega)
  · exact False.elim (by omega)
set_option maxRecDepth 100000 in
set_option maxHeartbeats 4000000 in
theorem c_X12_togetherFormula_b1 {g : Gt} {α : AL} {ν : Nat → Nat → Bool} {X : XM} {h : AH} (hT : TR g α ν X h) {O : XM} (hO : WO O) (hM : RM O X) {b : Int} (hb : R31 b) (hn : ¬ (0 ≤ b ∧ b < nC O)) : Mu g α ν M_X12_togetherFormula 27 [.ref (α 40 0), .int (J b)] h (some (.int (J (0)))) (fun X' => X' = xs X 40 0 0 1) := by
  refine mu_of rfl rfl (ls := [some (.ref (α 40 0)), some (.int (J b))]) rfl (Nat.le_of_ble_eq_true rfl) ?_
  show Ev g M_X12_togetherFormula 27 0 [some (.ref (α 40 0)), some (.int (J b))] [] h 0 0 (UQ g α ν (some (.int (J (0)))) (fun X' => X' = xs X 40 0 0 1))
  have q0 := rm_nC hM
  have q1 := wo_nC hO
  have q2 := rm_nS hM
  have q3 := wo_nS hO
  refine ev_ald0 1 dX12_togetherFormula_0 rfl ?_
  refine ev_ald0 2 dX12_togetherFormula_1 rfl ?_
  refine ev_ild1 3 dX12_togetherFormula_2 rfl ?_
  refine tc_V1 6 14 dX12_togetherFormula_3 lkv_X12_151 (tr40 hT) rfl rfl (by first | decide | omega) (Nat.le_of_ble_eq_true rfl) (isCourse_no hT hO hM hb hn) ?_
  refine tj_if_ne 13 9 dX12_togetherFormula_6 (by decide) rfl (by first | exact TR.rng hT _ _ _ | exact R31_of _ | exact bi_R _ | (constructor <;> omega)) (fun c6 => ?_) (fun c6 => ?_)
  · exact False.elim (by omega)
  · skip
    refine tj_iconst 10 dX12_togetherFormula_9 rfl ?_
    refine ev_goto 27 dX12_togetherFormula_10 (by decide) ?_
    refine tm_V1 30 14 dX12_togetherFormula_27 lkv_X12_144 (tr40 hT) rfl rfl (by first | decide | omega) (Nat.le_of_ble_eq_true rfl) (goes_n hT (by omega)) (fun h X1 hT hP27 => ?_)
    have hM1 := hM
    have hM : RM O X1 := by rw [hP27]; exact rm_th hM1 _
    have q0 := rm_nC hM
    have q2 := rm_nS hM
    refine tj_if_ne 35 33 dX12_togetherFormula_30 (by decide) rfl (by first | exact TR.rng hT _ _ _ | exact R31_of _ | exact bi_R _ | (constructor <;> omega)) (fun c30 => ?_) (fun c30 => ?_)
    · exact False.elim (by omega)
    · skip
      refine tj_iconst 34 dX12_togetherFormula_33 rfl ?_
      exact ev_ireturn (uq_i (by first | rfl | omega | exact bi_dt (by omega) | exact bi_df (by omega) | (skip)) hT (by assumption)) rfl dX12_togetherFormula_34
set_option maxRecDepth 100000 in
set_option maxHeartbeats 4000000 in
theorem c_X12_togetherFormula_x2 {g : Gt} {α : AL} {ν : Nat → Nat → Bool} {X : XM} {h : AH} (hT : TR g α ν X h) {O : XM} (hO : WO O) (hM : RM O X) {c : Nat} (hc : (c : Int) < nC O) (hm : ¬ nF O < 60) : Mu g α ν M_X12_togetherFormula 27 [.ref (α 40 0), .int (J (c : Int))] h (some (.int (J (0)))) (fun X' => X' = xs X 40 0 0 2) := by
  refine mu_of rfl rfl (ls := [some (.ref (α 40 0)), some (.int (J (c : Int)))]) rfl (Nat.le_of_ble_eq_true rfl) ?_
  show Ev g M_X12_togetherFormula 27 0 [some (.ref (α 40 0)), some (.int (J (c : Int)))] [] h 0 0 (UQ g α ν (some (.int (J (0)))) (fun X' => X' = xs X 40 0 0 2))
  have q0 := rm_nC hM
  have q1 := wo_nC hO
  have q2 := rm_nS hM
  have q3 := wo_nS hO
  have qf := wo_nF hO
  have qr := wo_nR hO
  have qfM := rm_nF hM
  have qrM := rm_nR hM
  refine ev_ald0 1 dX12_togetherFormula_0 rfl ?_
  refine ev_ald0 2 dX12_togetherFormula_1 rfl ?_
  refine ev_ild1 3 dX12_togetherFormula_2 rfl ?_
  refine tc_V1 6 14 dX12_togetherFormula_3 lkv_X12_151 (tr40 hT) rfl rfl (by first | decide | omega) (Nat.le_of_ble_eq_true rfl) (isCourse_ok hT hO hM (by omega)) ?_
  refine tj_if_ne 13 9 dX12_togetherFormula_6 (by decide) rfl (by first | exact TR.rng hT _ _ _ | exact R31_of _ | exact bi_R _ | (constructor <;> omega)) (fun c6 => ?_) (fun c6 => ?_)
  · skip
    refine ev_ald0 14 dX12_togetherFormula_13 rfl ?_
    refine ev_getfield 17 14 17 fl_X12_103_14 (tr40 hT) rfl dX12_togetherFormula_14 rfl ?_
    refine tj_bipush 19 dX12_togetherFormula_17 (by decide) rfl ?_
    refine tj_icmp_ne 26 22 dX12_togetherFormula_19 (by decide) rfl (by first | exact TR.rng hT _ _ _ | exact R31_of _ | exact bi_R _ | (constructor <;> omega)) (by first | exact TR.rng hT _ _ _ | exact R31_of _ | exact bi_R _ | (constructor <;> omega)) (fun c19 => ?_) (fun c19 => ?_)
    · exact False.elim (by omega)
    · skip
      refine tj_iconst 23 dX12_togetherFormula_22 rfl ?_
      refine ev_goto 27 dX12_togetherFormula_23 (by decide) ?_
      refine tm_V1 30 14 dX12_togetherFormula_27 lkv_X12_144 (tr40 hT) rfl rfl (by first | decide | omega) (Nat.le_of_ble_eq_true rfl) (goes_n hT (by omega)) (fun h X1 hT hP27 => ?_)
      have hM1 := hM
      have hM : RM O X1 := by rw [hP27]; exact rm_th hM1 _
      have q0 := rm_nC hM
      have q2 := rm_nS hM
      refine tj_if_ne 35 33 dX12_togetherFormula_30 (by decide) rfl (by first | exact TR.rng hT _ _ _ | exact R31_of _ | exact bi_R _ | (constructor <;> omega)) (fun c30 => ?_) (fun c30 => ?_)
      · exact False.elim (by omega)
      · skip
        refine tj_iconst 34 dX12_togetherFormula_33 rfl ?_
        exact ev_ireturn (uq_i (by first | rfl | omega | exact bi_dt (by omega) | exact bi_df (by omega) | (skip)) hT (by assumption)) rfl dX12_togetherFormula_34
  · exact False.elim (by omega)
set_option maxRecDepth 100000 in
set_option maxHeartbeats 4000000 in
theorem c_X12_togetherFormula_ok {g : Gt} {α : AL} {ν : Nat → Nat → Bool} {X : XM} {h : AH} (hT : TR g α ν X h) {O : XM} (hO : WO O) (hM : RM O X) {c : Nat} (hc : (c : Int) < nC O) (hm : nF O < 60) {n : Nat} (hn : nF O = (n : Int)) {O' : XM} (hMK : MKX O (16, n) (fun _ _ => yF 1 0 c 0 0 0) 2 O') : Mu g α ν M_X12_togetherFormula 27 [.ref (α 40 0), .int (J (c : Int))] h (some (.int (J (nF O)))) (fun X' => RM O' X' ∧ CZ X X' 0) := by
  refine mu_of rfl rfl (ls := [some (.ref (α 40 0)), some (.int (J (c : Int)))]) rfl (Nat.le_of_ble_eq_true rfl) ?_
  show Ev g M_X12_togetherFormula 27 0 [some (.ref (α 40 0)), some (.int (J (c : Int)))] [] h 0 0 (UQ g α ν (some (.int (J (nF O)))) (fun X' => RM O' X' ∧ CZ X X' 0))
  have q0 := rm_nC hM
  have q1 := wo_nC hO
  have q2 := rm_nS hM
  have q3 := wo_nS hO
  have qf := wo_nF hO
  have qr := wo_nR hO
  have qfM := rm_nF hM
  have qrM := rm_nR hM
  refine ev_ald0 1 dX12_togetherFormula_0 rfl ?_
  refine ev_ald0 2 dX12_togetherFormula_1 rfl ?_
  refine ev_ild1 3 dX12_togetherFormula_2 rfl ?_
  refine tc_V1 6 14 dX12_togetherFormula_3 lkv_X12_151 (tr40 hT) rfl rfl (by first | decide | omega) (Nat.le_of_ble_eq_true rfl) (isCourse_ok hT hO hM (by omega)) ?_
  refine tj_if_ne 13 9 dX12_togetherFormula_6 (by decide) rfl (by first | exact TR.rng hT _ _ _ | exact R31_of _ | exact bi_R _ | (constructor <;> omega)) (fun c6 => ?_) (fun c6 => ?_)
  · skip
    refine ev_ald0 14 dX12_togetherFormula_13 rfl ?_
    refine ev_getfield 17 14 17 fl_X12_103_14 (tr40 hT) rfl dX12_togetherFormula_14 rfl ?_
    refine tj_bipush 19 dX12_togetherFormula_17 (by decide) rfl ?_
    refine tj_icmp_ne 26 22 dX12_togetherFormula_19 (by decide) rfl (by first | exact TR.rng hT _ _ _ | exact R31_of _ | exact bi_R _ | (constructor <;> omega)) (by first | exact TR.rng hT _ _ _ | exact R31_of _ | exact bi_R _ | (constructor <;> omega)) (fun c19 => ?_) (fun c19 => ?_)
    · skip
      refine tj_iconst 27 dX12_togetherFormula_26 rfl ?_
      refine tm_V1 30 14 dX12_togetherFormula_27 lkv_X12_144 (tr40 hT) rfl rfl (by first | decide | omega) (Nat.le_of_ble_eq_true rfl) (goes_0 hT) (fun h X1 hT hP27 => ?_)
      have hM1 := hM
      have hM : RM O X1 := by rw [hP27]; exact rm_th hM1 _
      have q0 := rm_nC hM
      have q2 := rm_nS hM
      refine tj_if_ne 35 33 dX12_togetherFormula_30 (by decide) rfl (by first | exact TR.rng hT _ _ _ | exact R31_of _ | exact bi_R _ | (constructor <;> omega)) (fun c30 => ?_) (fun c30 => ?_)
      · skip
        have qfM := rm_nF hM
        refine ev_ald0 36 dX12_togetherFormula_35 rfl ?_
        refine tj_iconst 37 dX12_togetherFormula_36 rfl ?_
        refine ev_ild1 38 dX12_togetherFormula_37 rfl ?_
        refine tj_iconst 39 dX12_togetherFormula_38 rfl ?_
        refine tj_iconst 40 dX12_togetherFormula_39 rfl ?_
        refine tj_iconst 41 dX12_togetherFormula_40 rfl ?_
        refine tm_V5 44 14 dX12_togetherFormula_41 lkv_X12_147 (tr40 hT) rfl rfl (by first | decide | omega) (Nat.le_of_ble_eq_true rfl) (c_X12_add hT (n := n) (by omega) (by omega) (by first | exact TR.rng hT _ _ _ | exact R31_of _ | exact bi_R _ | (constructor <;> omega)) (by first | exact TR.rng hT _ _ _ | exact R31_of _ | exact bi_R _ | (constructor <;> omega)) (by first | exact TR.rng hT _ _ _ | exact R31_of _ | exact bi_R _ | (constructor <;> omega)) (by first | exact TR.rng hT _ _ _ | exact R31_of _ | exact bi_R _ | (constructor <;> omega)) (by first | exact TR.rng hT _ _ _ | exact R31_of _ | exact bi_R _ | (constructor <;> omega))) (fun h X1 hT hP41 => ?_)
        exact ev_ireturn (uq_i (by first | rfl | omega | exact bi_dt (by omega) | exact bi_df (by omega) | (rw [hn])) hT (by rw [hP41]; exact ⟨rm_addF hM hO hn hMK rfl (fun z => by first | exact ⟨rfl, rfl, rfl⟩ | exact absurd z (show ¬ (1 : Int) = 0 by decide)) (fun z => by first | exact ⟨rfl, rfl⟩ | exact absurd z (show ¬ (1 : Int) = 1 by decide)) (fun z => by first | exact ⟨rfl, rfl⟩ | exact absurd z (show ¬ (1 : Int) = 2 by decide)) (fun z => by first | exact ⟨rfl, rfl, rfl, fun w => rfl⟩ | exact ⟨rfl, rfl, rfl, fun w => absurd rfl w⟩ | exact ⟨rfl, rfl, (by rw [if_neg (by show ¬ (_ : Int) = -1; omega)]), fun w => rfl⟩ | exact absurd z (show ¬ (1 : Int) = 3 by decide)) (fun z => by first | exact ⟨rfl, rfl⟩ | exact absurd z (show ¬ (1 : Int) = 4 by decide)), cz_addF (by rw [hP27]; exact CZ.go X 0)⟩)) rfl dX12_togetherFormula_44
      · exact False.elim (by omega)
    · exact False.elim (by omega)
  · exact False.elim (by omega)
set_option maxRecDepth 100000 in
set_option maxHeartbeats 4000000 in
theorem c_X12_creditsFormula_x1 {g : Gt} {α : AL} {ν : Nat → Nat → Bool} {X : XM} {h : AH} (hT : TR g α ν X h) {O : XM} (hO : WO O) (hM : RM O X) {a0 : Int} (ha0 : R31 a0) (hm : ¬ (0 ≤ a0 ∧ a0 ≤ 120)) : Mu g α ν M_X12_creditsFormula 27 [.ref (α 40 0), .int (J a0)] h (some (.int (J (0)))) (fun X' => X' = xs X 40 0 0 1) := by
  refine mu_of rfl rfl (ls := [some (.ref (α 40 0)), some (.int (J a0))]) rfl (Nat.le_of_ble_eq_true rfl) ?_
  show Ev g M_X12_creditsFormula 27 0 [some (.ref (α 40 0)), some (.int (J a0))] [] h 0 0 (UQ g α ν (some (.int (J (0)))) (fun X' => X' = xs X 40 0 0 1))
  have q0 := rm_nC hM
  have q1 := wo_nC hO
  have q2 := rm_nS hM
  have q3 := wo_nS hO
  refine ev_ald0 1 dX12_creditsFormula_0 rfl ?_
  refine ev_ild1 2 dX12_creditsFormula_1 rfl ?_
  refine tj_iconst 3 dX12_creditsFormula_2 rfl ?_
  refine tj_bipush 5 dX12_creditsFormula_3 (by decide) rfl ?_
  refine tc_S3 8 dX12_creditsFormula_5 lks_X12_96 rfl (by first | decide | omega) (Nat.le_of_ble_eq_true rfl) (in_no (by first | exact TR.rng hT _ _ _ | exact R31_of _ | exact bi_R _ | (constructor <;> omega)) (by first | exact TR.rng hT _ _ _ | exact R31_of _ | exact bi_R _ | (constructor <;> omega)) (by first | exact TR.rng hT _ _ _ | exact R31_of _ | exact bi_R _ | (constructor <;> omega)) (by omega)) ?_
  refine tj_if_ne 15 11 dX12_creditsFormula_8 (by decide) rfl (by first | exact TR.rng hT _ _ _ | exact R31_of _ | exact bi_R _ | (constructor <;> omega)) (fun c8 => ?_) (fun c8 => ?_)
  · exact False.elim (by omega)
  · skip
    refine tj_iconst 12 dX12_creditsFormula_11 rfl ?_
    refine ev_goto 29 dX12_creditsFormula_12 (by decide) ?_
    refine tm_V1 32 14 dX12_creditsFormula_29 lkv_X12_144 (tr40 hT) rfl rfl (by first | decide | omega) (Nat.le_of_ble_eq_true rfl) (goes_n hT (by omega)) (fun h X1 hT hP29 => ?_)
    have hM1 := hM
    have hM : RM O X1 := by rw [hP29]; exact rm_th hM1 _
    have q0 := rm_nC hM
    have q2 := rm_nS hM
    refine tj_if_ne 37 35 dX12_creditsFormula_32 (by decide) rfl (by first | exact TR.rng hT _ _ _ | exact R31_of _ | exact bi_R _ | (constructor <;> omega)) (fun c32 => ?_) (fun c32 => ?_)
    · exact False.elim (by omega)
    · skip
      refine tj_iconst 36 dX12_creditsFormula_35 rfl ?_
      exact ev_ireturn (uq_i (by first | rfl | omega | exact bi_dt (by omega) | exact bi_df (by omega) | (skip)) hT (by assumption)) rfl dX12_creditsFormula_36
set_option maxRecDepth 100000 in
set_option maxHeartbeats 4000000 in
theorem c_X12_creditsFormula_x2 {g : Gt} {α : AL} {ν : Nat → Nat → Bool} {X : XM} {h : AH} (hT : TR g α ν X h) {O : XM} (hO : WO O) (hM : RM O X) {a0 : Int} (ha0 : R31 a0) (h0 : 0 ≤ a0 ∧ a0 ≤ 120) (hm : ¬ nF O < 60) : Mu g α ν M_X12_creditsFormula 27 [.ref (α 40 0), .int (J a0)] h (some (.int (J (0)))) (fun X' => X' = xs X 40 0 0 2) := by
  refine mu_of rfl rfl (ls := [some (.ref (α 40 0)), some (.int (J a0))]) rfl (Nat.le_of_ble_eq_true rfl) ?_
  show Ev g M_X12_creditsFormula 27 0 [some (.ref (α 40 0)), some (.int (J a0))] [] h 0 0 (UQ g α ν (some (.int (J (0)))) (fun X' => X' = xs X 40 0 0 2))
  have q0 := rm_nC hM
  have q1 := wo_nC hO
  have q2 := rm_nS hM
  have q3 := wo_nS hO
  have qf := wo_nF hO
  have qr := wo_nR hO
  have qfM := rm_nF hM
  have qrM := rm_nR hM
  refine ev_ald0 1 dX12_creditsFormula_0 rfl ?_
  refine ev_ild1 2 dX12_creditsFormula_1 rfl ?_
  refine tj_iconst 3 dX12_creditsFormula_2 rfl ?_
  refine tj_bipush 5 dX12_creditsFormula_3 (by decide) rfl ?_
  refine tc_S3 8 dX12_creditsFormula_5 lks_X12_96 rfl (by first | decide | omega) (Nat.le_of_ble_eq_true rfl) (in_ok (by first | exact TR.rng hT _ _ _ | exact R31_of _ | exact bi_R _ | (constructor <;> omega)) (by first | exact TR.rng hT _ _ _ | exact R31_of _ | exact bi_R _ | (constructor <;> omega)) (by first | exact TR.rng hT _ _ _ | exact R31_of _ | exact bi_R _ | (constructor <;> omega)) (by omega)) ?_
  refine tj_if_ne 15 11 dX12_creditsFormula_8 (by decide) rfl (by first | exact TR.rng hT _ _ _ | exact R31_of _ | exact bi_R _ | (constructor <;> omega)) (fun c8 => ?_) (fun c8 => ?_)
  · skip
    refine ev_ald0 16 dX12_creditsFormula_15 rfl ?_
    refine ev_getfield 19 14 17 fl_X12_103_14 (tr40 hT) rfl dX12_creditsFormula_16 rfl ?_
    refine tj_bipush 21 dX12_creditsFormula_19 (by decide) rfl ?_
    refine tj_icmp_ne 28 24 dX12_creditsFormula_21 (by decide) rfl (by first | exact TR.rng hT _ _ _ | exact R31_of _ | exact bi_R _ | (constructor <;> omega)) (by first | exact TR.rng hT _ _ _ | exact R31_of _ | exact bi_R _ | (constructor <;> omega)) (fun c21 => ?_) (fun c21 => ?_)
    · exact False.elim (by omega)
    · skip
      refine tj_iconst 25 dX12_creditsFormula_24 rfl ?_
      refine ev_goto 29 dX12_creditsFormula_25 (by decide) ?_
      refine tm_V1 32 14 dX12_creditsFormula_29 lkv_X12_144 (tr40 hT) rfl rfl (by first | decide | omega) (Nat.le_of_ble_eq_true rfl) (goes_n hT (by omega)) (fun h X1 hT hP29 => ?_)
      have hM1 := hM
      have hM : RM O X1 := by rw [hP29]; exact rm_th hM1 _
      have q0 := rm_nC hM
      have q2 := rm_nS hM
      refine tj_if_ne 37 35 dX12_creditsFormula_32 (by decide) rfl (by first | exact TR.rng hT _ _ _ | exact R31_of _ | exact bi_R _ | (constructor <;> omega)) (fun c32 => ?_) (fun c32 => ?_)
      · exact False.elim (by omega)
      · skip
        refine tj_iconst 36 dX12_creditsFormula_35 rfl ?_
        exact ev_ireturn (uq_i (by first | rfl | omega | exact bi_dt (by omega) | exact bi_df (by omega) | (skip)) hT (by assumption)) rfl dX12_creditsFormula_36
  · exact False.elim (by omega)
set_option maxRecDepth 100000 in
set_option maxHeartbeats 4000000 in
theorem c_X12_creditsFormula_ok {g : Gt} {α : AL} {ν : Nat → Nat → Bool} {X : XM} {h : AH} (hT : TR g α ν X h) {O : XM} (hO : WO O) (hM : RM O X) {a0 : Int} (ha0 : R31 a0) (h0 : 0 ≤ a0 ∧ a0 ≤ 120) (hm : nF O < 60) {n : Nat} (hn : nF O = (n : Int)) {O' : XM} (hMK : MKX O (16, n) (fun _ _ => yF 2 0 a0 0 0 0) 2 O') : Mu g α ν M_X12_creditsFormula 27 [.ref (α 40 0), .int (J a0)] h (some (.int (J (nF O)))) (fun X' => RM O' X' ∧ CZ X X' 0) := by
  refine mu_of rfl rfl (ls := [some (.ref (α 40 0)), some (.int (J a0))]) rfl (Nat.le_of_ble_eq_true rfl) ?_
  show Ev g M_X12_creditsFormula 27 0 [some (.ref (α 40 0)), some (.int (J a0))] [] h 0 0 (UQ g α ν (some (.int (J (nF O)))) (fun X' => RM O' X' ∧ CZ X X' 0))
  have q0 := rm_nC hM
  have q1 := wo_nC hO
  have q2 := rm_nS hM
  have q3 := wo_nS hO
  have qf := wo_nF hO
  have qr := wo_nR hO
  have qfM := rm_nF hM
  have qrM := rm_nR hM
  refine ev_ald0 1 dX12_creditsFormula_0 rfl ?_
  refine ev_ild1 2 dX12_creditsFormula_1 rfl ?_
  refine tj_iconst 3 dX12_creditsFormula_2 rfl ?_
  refine tj_bipush 5 dX12_creditsFormula_3 (by decide) rfl ?_
  refine tc_S3 8 dX12_creditsFormula_5 lks_X12_96 rfl (by first | decide | omega) (Nat.le_of_ble_eq_true rfl) (in_ok (by first | exact TR.rng hT _ _ _ | exact R31_of _ | exact bi_R _ | (constructor <;> omega)) (by first | exact TR.rng hT _ _ _ | exact R31_of _ | exact bi_R _ | (constructor <;> omega)) (by first | exact TR.rng hT _ _ _ | exact R31_of _ | exact bi_R _ | (constructor <;> omega)) (by omega)) ?_
  refine tj_if_ne 15 11 dX12_creditsFormula_8 (by decide) rfl (by first | exact TR.rng hT _ _ _ | exact R31_of _ | exact bi_R _ | (constructor <;> omega)) (fun c8 => ?_) (fun c8 => ?_)
  · skip
    refine ev_ald0 16 dX12_creditsFormula_15 rfl ?_
    refine ev_getfield 19 14 17 fl_X12_103_14 (tr40 hT) rfl dX12_creditsFormula_16 rfl ?_
    refine tj_bipush 21 dX12_creditsFormula_19 (by decide) rfl ?_
    refine tj_icmp_ne 28 24 dX12_creditsFormula_21 (by decide) rfl (by first | exact TR.rng hT _ _ _ | exact R31_of _ | exact bi_R _ | (constructor <;> omega)) (by first | exact TR.rng hT _ _ _ | exact R31_of _ | exact bi_R _ | (constructor <;> omega)) (fun c21 => ?_) (fun c21 => ?_)
    · skip
      refine tj_iconst 29 dX12_creditsFormula_28 rfl ?_
      refine tm_V1 32 14 dX12_creditsFormula_29 lkv_X12_144 (tr40 hT) rfl rfl (by first | decide | omega) (Nat.le_of_ble_eq_true rfl) (goes_0 hT) (fun h X1 hT hP29 => ?_)
      have hM1 := hM
      have hM : RM O X1 := by rw [hP29]; exact rm_th hM1 _
      have q0 := rm_nC hM
      have q2 := rm_nS hM
      refine tj_if_ne 37 35 dX12_creditsFormula_32 (by decide) rfl (by first | exact TR.rng hT _ _ _ | exact R31_of _ | exact bi_R _ | (constructor <;> omega)) (fun c32 => ?_) (fun c32 => ?_)
      · skip
        have qfM := rm_nF hM
        refine ev_ald0 38 dX12_creditsFormula_37 rfl ?_
        refine tj_iconst 39 dX12_creditsFormula_38 rfl ?_
        refine ev_ild1 40 dX12_creditsFormula_39 rfl ?_
        refine tj_iconst 41 dX12_creditsFormula_40 rfl ?_
        refine tj_iconst 42 dX12_creditsFormula_41 rfl ?_
        refine tj_iconst 43 dX12_creditsFormula_42 rfl ?_
        refine tm_V5 46 14 dX12_creditsFormula_43 lkv_X12_147 (tr40 hT) rfl rfl (by first | decide | omega) (Nat.le_of_ble_eq_true rfl) (c_X12_add hT (n := n) (by omega) (by omega) (by first | exact TR.rng hT _ _ _ | exact R31_of _ | exact bi_R _ | (constructor <;> omega)) (by first | exact TR.rng hT _ _ _ | exact R31_of _ | exact bi_R _ | (constructor <;> omega)) (by first | exact TR.rng hT _ _ _ | exact R31_of _ | exact bi_R _ | (constructor <;> omega)) (by first | exact TR.rng hT _ _ _ | exact R31_of _ | exact bi_R _ | (constructor <;> omega)) (by first | exact TR.rng hT _ _ _ | exact R31_of _ | exact bi_R _ | (constructor <;> omega))) (fun h X1 hT hP43 => ?_)
        exact ev_ireturn (uq_i (by first | rfl | omega | exact bi_dt (by omega) | exact bi_df (by omega) | (rw [hn])) hT (by rw [hP43]; exact ⟨rm_addF hM hO hn hMK rfl (fun z => by first | exact ⟨rfl, rfl, rfl⟩ | exact absurd z (show ¬ (2 : Int) = 0 by decide)) (fun z => by first | exact ⟨rfl, rfl⟩ | exact absurd z (show ¬ (2 : Int) = 1 by decide)) (fun z => by first | exact ⟨rfl, rfl⟩ | exact absurd z (show ¬ (2 : Int) = 2 by decide)) (fun z => by first | exact ⟨rfl, rfl, rfl, fun w => rfl⟩ | exact ⟨rfl, rfl, rfl, fun w => absurd rfl w⟩ | exact ⟨rfl, rfl, (by rw [if_neg (by show ¬ (_ : Int) = -1; omega)]), fun w => rfl⟩ | exact absurd z (show ¬ (2 : Int) = 3 by decide)) (fun z => by first | exact ⟨rfl, rfl⟩ | exact absurd z (show ¬ (2 : Int) = 4 by decide)), cz_addF (by rw [hP29]; exact CZ.go X 0)⟩)) rfl dX12_creditsFormula_46
      · exact False.elim (by omega)
    · exact False.elim (by omega)
  · exact False.elim (by omega)
set_option maxRecDepth 100000 in
set_option maxHeartbeats 4000000 in
theorem c_X12_depthOver {g : Gt} {α : AL} {ν : Nat → Nat → Bool} {X : XM} {h : AH} (hT : TR g α ν X h) {O : XM} (hO : WO O) (hM : RM O X) {f : Nat} (hf : (f : Int) < nF O) {f2 : Nat} (hf2 : (f2 : Int) < nF O) {f3 : Nat} (hf3 : (f3 : Int) < nF O) : Pr g M_X12_depthOver 0 [.ref (α 40 0), .int (J (f : Int)), .int (J (f2 : Int)), .int (J (f3 : Int))] h (some (.int (J (1 + mxI (mxI (O 16 f 0) (O 16 f2 0)) (O 16 f3 0))))) := by
  refine pr_of rfl rfl (ls := [some (.ref (α 40 0)), some (.int (J (f : Int))), some (.int (J (f2 : Int))), some (.int (J (f3 : Int))), none]) rfl (Nat.le_of_ble_eq_true rfl) ?_
  show Ev g M_X12_depthOver 0 0 [some (.ref (α 40 0)), some (.int (J (f : Int))), some (.int (J (f2 : Int))), some (.int (J (f3 : Int))), none] [] h 0 0 (PQ (some (.int (J (1 + mxI (mxI (O 16 f 0) (O 16 f2 0)) (O 16 f3 0))))) h)
  have q0 := rm_nC hM
  have q1 := wo_nC hO
  have q2 := rm_nS hM
  have q3 := wo_nS hO
  have qf := wo_nF hO
  have qr := wo_nR hO
  have qfM := rm_nF hM
  have qrM := rm_nR hM
  have ed1 := rm_dep hM f hf
  have qd1 := wo_dep hO f hf
  have ed2 := rm_dep hM f2 hf2
  have qd2 := wo_dep hO f2 hf2
  have ed3 := rm_dep hM f3 hf3
  have qd3 := wo_dep hO f3 hf3
  refine ev_ald0 1 dX12_depthOver_0 rfl ?_
  refine ev_getfield 4 14 22 fl_X12_58_14 (tr40 hT) rfl dX12_depthOver_1 rfl ?_
  refine ev_ild1 5 dX12_depthOver_4 rfl ?_
  refine tv_iald 6 (tr62 hT) (f) (by omega) (by omega) (by omega) dX12_depthOver_5 rfl ?_
  refine ev_ald0 7 dX12_depthOver_6 rfl ?_
  refine ev_getfield 10 14 22 fl_X12_58_14 (tr40 hT) rfl dX12_depthOver_7 rfl ?_
  refine ev_ild2 11 dX12_depthOver_10 rfl ?_
  refine tv_iald 12 (tr62 hT) (f2) (by omega) (by omega) (by omega) dX12_depthOver_11 rfl ?_
  refine tj_icmp_le 24 15 dX12_depthOver_12 (by decide) rfl (by first | exact TR.rng hT _ _ _ | exact R31_of _ | exact bi_R _ | (constructor <;> omega)) (by first | exact TR.rng hT _ _ _ | exact R31_of _ | exact bi_R _ | (constructor <;> omega)) (fun c12 => ?_) (fun c12 => ?_)
  · skip
    refine ev_ald0 25 dX12_depthOver_24 rfl ?_
    refine ev_getfield 28 14 22 fl_X12_58_14 (tr40 hT) rfl dX12_depthOver_25 rfl ?_
    refine ev_ild2 29 dX12_depthOver_28 rfl ?_
    refine tv_iald 30 (tr62 hT) (f2) (by omega) (by omega) (by omega) dX12_depthOver_29 rfl ?_
    refine ev_ist4 32 dX12_depthOver_30 rfl (by decide) rfl ?_
    refine tj_iconst 33 dX12_depthOver_32 rfl ?_
    refine ev_ild4 35 dX12_depthOver_33 rfl ?_
    refine ev_ald0 36 dX12_depthOver_35 rfl ?_
    refine ev_getfield 39 14 22 fl_X12_58_14 (tr40 hT) rfl dX12_depthOver_36 rfl ?_
    refine ev_ild3 40 dX12_depthOver_39 rfl ?_
    refine tv_iald 41 (tr62 hT) (f3) (by omega) (by omega) (by omega) dX12_depthOver_40 rfl ?_
    refine tj_icmp_le 49 44 dX12_depthOver_41 (by decide) rfl (by first | exact TR.rng hT _ _ _ | exact R31_of _ | exact bi_R _ | (constructor <;> omega)) (by first | exact TR.rng hT _ _ _ | exact R31_of _ | exact bi_R _ | (constructor <;> omega)) (fun c41 => ?_) (fun c41 => ?_)
    · skip
      refine ev_ald0 50 dX12_depthOver_49 rfl ?_
      refine ev_getfield 53 14 22 fl_X12_58_14 (tr40 hT) rfl dX12_depthOver_50 rfl ?_
      refine ev_ild3 54 dX12_depthOver_53 rfl ?_
      refine tv_iald 55 (tr62 hT) (f3) (by omega) (by omega) (by omega) dX12_depthOver_54 rfl ?_
      refine tj_iadd 56 dX12_depthOver_55 rfl ?_
      exact ev_ireturn (pq_i (by first | rfl | omega | exact bi_dt (by omega) | exact bi_df (by omega) | (unfold mxI; split <;> split <;> omega))) rfl dX12_depthOver_56
    · skip
      refine ev_ild4 46 dX12_depthOver_44 rfl ?_
      refine ev_goto 55 dX12_depthOver_46 (by decide) ?_
      refine tj_iadd 56 dX12_depthOver_55 rfl ?_
      exact ev_ireturn (pq_i (by first | rfl | omega | exact bi_dt (by omega) | exact bi_df (by omega) | (unfold mxI; split <;> split <;> omega))) rfl dX12_depthOver_56
  · skip
    refine ev_ald0 16 dX12_depthOver_15 rfl ?_
    refine ev_getfield 19 14 22 fl_X12_58_14 (tr40 hT) rfl dX12_depthOver_16 rfl ?_
    refine ev_ild1 20 dX12_depthOver_19 rfl ?_
    refine tv_iald 21 (tr62 hT) (f) (by omega) (by omega) (by omega) dX12_depthOver_20 rfl ?_
    refine ev_goto 30 dX12_depthOver_21 (by decide) ?_
    refine ev_ist4 32 dX12_depthOver_30 rfl (by decide) rfl ?_
    refine tj_iconst 33 dX12_depthOver_32 rfl ?_
    refine ev_ild4 35 dX12_depthOver_33 rfl ?_
    refine ev_ald0 36 dX12_depthOver_35 rfl ?_
    refine ev_getfield 39 14 22 fl_X12_58_14 (tr40 hT) rfl dX12_depthOver_36 rfl ?_
    refine ev_ild3 40 dX12_depthOver_39 rfl ?_
    refine tv_iald 41 (tr62 hT) (f3) (by omega) (by omega) (by omega) dX12_depthOver_40 rfl ?_
    refine tj_icmp_le 49 44 dX12_depthOver_41 (by decide) rfl (by first | exact TR.rng hT _ _ _ | exact R31_of _ | exact bi_R _ | (constructor <;> omega)) (by first | exact TR.rng hT _ _ _ | exact R31_of _ | exact bi_R _ | (constructor <;> omega)) (fun c41 => ?_) (fun c41 => ?_)
    · skip
      refine ev_ald0 50 dX12_depthOver_49 rfl ?_
      refine ev_getfield 53 14 22 fl_X12_58_14 (tr40 hT) rfl dX12_depthOver_50 rfl ?_
      refine ev_ild3 54 dX12_depthOver_53 rfl ?_
      refine tv_iald 55 (tr62 hT) (f3) (by omega) (by omega) (by omega) dX12_depthOver_54 rfl ?_
      refine tj_iadd 56 dX12_depthOver_55 rfl ?_
      exact ev_ireturn (pq_i (by first | rfl | omega | exact bi_dt (by omega) | exact bi_df (by omega) | (unfold mxI; split <;> split <;> omega))) rfl dX12_depthOver_56
    · skip
      refine ev_ild4 46 dX12_depthOver_44 rfl ?_
      refine ev_goto 55 dX12_depthOver_46 (by decide) ?_
      refine tj_iadd 56 dX12_depthOver_55 rfl ?_
      exact ev_ireturn (pq_i (by first | rfl | omega | exact bi_dt (by omega) | exact bi_df (by omega) | (unfold mxI; split <;> split <;> omega))) rfl dX12_depthOver_56
set_option maxRecDepth 100000 in
set_option maxHeartbeats 4000000 in
theorem c_X12_join_b1 {g : Gt} {α : AL} {ν : Nat → Nat → Bool} {X : XM} {h : AH} (hT : TR g α ν X h) {O : XM} (hO : WO O) (hM : RM O X) {k : Int} (hk : R31 k) {b : Int} (hb : R31 b) (hn : ¬ (0 ≤ b ∧ b < nF O)) {a2 : Int} (ha2 : R31 a2) {a3 : Int} (ha3 : R31 a3) : Mu g α ν M_X12_join 26 [.ref (α 40 0), .int (J k), .int (J b), .int (J a2), .int (J a3)] h (some (.int (J (0)))) (fun X' => X' = xs X 40 0 0 1) := by
  refine mu_of rfl rfl (ls := [some (.ref (α 40 0)), some (.int (J k)), some (.int (J b)), some (.int (J a2)), some (.int (J a3))]) rfl (Nat.le_of_ble_eq_true rfl) ?_
  show Ev g M_X12_join 26 0 [some (.ref (α 40 0)), some (.int (J k)), some (.int (J b)), some (.int (J a2)), some (.int (J a3))] [] h 0 0 (UQ g α ν (some (.int (J (0)))) (fun X' => X' = xs X 40 0 0 1))
  have q0 := rm_nC hM
  have q1 := wo_nC hO
  have q2 := rm_nS hM
  have q3 := wo_nS hO
  refine ev_ald0 1 dX12_join_0 rfl ?_
  refine ev_ald0 2 dX12_join_1 rfl ?_
  refine ev_ild2 3 dX12_join_2 rfl ?_
  refine tc_V1 6 14 dX12_join_3 lkv_X12_136 (tr40 hT) rfl rfl (by first | decide | omega) (Nat.le_of_ble_eq_true rfl) (isFormula_no hT hO hM hb hn) ?_
  refine tj_if_eq 26 9 dX12_join_6 (by decide) rfl (by first | exact TR.rng hT _ _ _ | exact R31_of _ | exact bi_R _ | (constructor <;> omega)) (fun c6 => ?_) (fun c6 => ?_)
  · skip
    refine tj_iconst 27 dX12_join_26 rfl ?_
    refine ev_goto 56 dX12_join_27 (by decide) ?_
    refine tm_V1 59 14 dX12_join_56 lkv_X12_144 (tr40 hT) rfl rfl (by first | decide | omega) (Nat.le_of_ble_eq_true rfl) (goes_n hT (by omega)) (fun h X1 hT hP56 => ?_)
    have hM1 := hM
    have hM : RM O X1 := by rw [hP56]; exact rm_th hM1 _
    have q0 := rm_nC hM
    have q2 := rm_nS hM
    refine tj_if_ne 64 62 dX12_join_59 (by decide) rfl (by first | exact TR.rng hT _ _ _ | exact R31_of _ | exact bi_R _ | (constructor <;> omega)) (fun c59 => ?_) (fun c59 => ?_)
    · exact False.elim (by omega)
    · skip
      refine tj_iconst 63 dX12_join_62 rfl ?_
      exact ev_ireturn (uq_i (by first | rfl | omega | exact bi_dt (by omega) | exact bi_df (by omega) | (skip)) hT (by assumption)) rfl dX12_join_63
  · exact False.elim (by omega)
set_option maxRecDepth 100000 in
set_option maxHeartbeats 4000000 in
theorem c_X12_join_b2 {g : Gt} {α : AL} {ν : Nat → Nat → Bool} {X : XM} {h : AH} (hT : TR g α ν X h) {O : XM} (hO : WO O) (hM : RM O X) {k : Int} (hk : R31 k) {f : Nat} (hf : (f : Int) < nF O) {b : Int} (hb : R31 b) (hn : ¬ (0 ≤ b ∧ b < nF O)) {a3 : Int} (ha3 : R31 a3) : Mu g α ν M_X12_join 26 [.ref (α 40 0), .int (J k), .int (J (f : Int)), .int (J b), .int (J a3)] h (some (.int (J (0)))) (fun X' => X' = xs X 40 0 0 1) := by
  refine mu_of rfl rfl (ls := [some (.ref (α 40 0)), some (.int (J k)), some (.int (J (f : Int))), some (.int (J b)), some (.int (J a3))]) rfl (Nat.le_of_ble_eq_true rfl) ?_
  show Ev g M_X12_join 26 0 [some (.ref (α 40 0)), some (.int (J k)), some (.int (J (f : Int))), some (.int (J b)), some (.int (J a3))] [] h 0 0 (UQ g α ν (some (.int (J (0)))) (fun X' => X' = xs X 40 0 0 1))
  have q0 := rm_nC hM
  have q1 := wo_nC hO
  have q2 := rm_nS hM
  have q3 := wo_nS hO
  refine ev_ald0 1 dX12_join_0 rfl ?_
  refine ev_ald0 2 dX12_join_1 rfl ?_
  refine ev_ild2 3 dX12_join_2 rfl ?_
  refine tc_V1 6 14 dX12_join_3 lkv_X12_136 (tr40 hT) rfl rfl (by first | decide | omega) (Nat.le_of_ble_eq_true rfl) (isFormula_ok hT hO hM (by omega)) ?_
  refine tj_if_eq 26 9 dX12_join_6 (by decide) rfl (by first | exact TR.rng hT _ _ _ | exact R31_of _ | exact bi_R _ | (constructor <;> omega)) (fun c6 => ?_) (fun c6 => ?_)
  · exact False.elim (by omega)
  · skip
    refine ev_ald0 10 dX12_join_9 rfl ?_
    refine ev_ild3 11 dX12_join_10 rfl ?_
    refine tc_V1 14 14 dX12_join_11 lkv_X12_136 (tr40 hT) rfl rfl (by first | decide | omega) (Nat.le_of_ble_eq_true rfl) (isFormula_no hT hO hM hb hn) ?_
    refine tj_if_eq 26 17 dX12_join_14 (by decide) rfl (by first | exact TR.rng hT _ _ _ | exact R31_of _ | exact bi_R _ | (constructor <;> omega)) (fun c14 => ?_) (fun c14 => ?_)
    · skip
      refine tj_iconst 27 dX12_join_26 rfl ?_
      refine ev_goto 56 dX12_join_27 (by decide) ?_
      refine tm_V1 59 14 dX12_join_56 lkv_X12_144 (tr40 hT) rfl rfl (by first | decide | omega) (Nat.le_of_ble_eq_true rfl) (goes_n hT (by omega)) (fun h X1 hT hP56 => ?_)
      have hM1 := hM
      have hM : RM O X1 := by rw [hP56]; exact rm_th hM1 _
      have q0 := rm_nC hM
      have q2 := rm_nS hM
      refine tj_if_ne 64 62 dX12_join_59 (by decide) rfl (by first | exact TR.rng hT _ _ _ | exact R31_of _ | exact bi_R _ | (constructor <;> omega)) (fun c59 => ?_) (fun c59 => ?_)
      · exact False.elim (by omega)
      · skip
        refine tj_iconst 63 dX12_join_62 rfl ?_
        exact ev_ireturn (uq_i (by first | rfl | omega | exact bi_dt (by omega) | exact bi_df (by omega) | (skip)) hT (by assumption)) rfl dX12_join_63
    · exact False.elim (by omega)
set_option maxRecDepth 100000 in
set_option maxHeartbeats 4000000 in
theorem c_X12_join_b3 {g : Gt} {α : AL} {ν : Nat → Nat → Bool} {X : XM} {h : AH} (hT : TR g α ν X h) {O : XM} (hO : WO O) (hM : RM O X) {k : Int} (hk : R31 k) {f : Nat} (hf : (f : Int) < nF O) {f2 : Nat} (hf2 : (f2 : Int) < nF O) {b : Int} (hb : R31 b) (hn : ¬ (0 ≤ b ∧ b < nF O)) : Mu g α ν M_X12_join 26 [.ref (α 40 0), .int (J k), .int (J (f : Int)), .int (J (f2 : Int)), .int (J b)] h (some (.int (J (0)))) (fun X' => X' = xs X 40 0 0 1) := by
  refine mu_of rfl rfl (ls := [some (.ref (α 40 0)), some (.int (J k)), some (.int (J (f : Int))), some (.int (J (f2 : Int))), some (.int (J b))]) rfl (Nat.le_of_ble_eq_true rfl) ?_
  show Ev g M_X12_join 26 0 [some (.ref (α 40 0)), some (.int (J k)), some (.int (J (f : Int))), some (.int (J (f2 : Int))), some (.int (J b))] [] h 0 0 (UQ g α ν (some (.int (J (0)))) (fun X' => X' = xs X 40 0 0 1))
  have q0 := rm_nC hM
  have q1 := wo_nC hO
  have q2 := rm_nS hM
  have q3 := wo_nS hO
  refine ev_ald0 1 dX12_join_0 rfl ?_
  refine ev_ald0 2 dX12_join_1 rfl ?_
  refine ev_ild2 3 dX12_join_2 rfl ?_
  refine tc_V1 6 14 dX12_join_3 lkv_X12_136 (tr40 hT) rfl rfl (by first | decide | omega) (Nat.le_of_ble_eq_true rfl) (isFormula_ok hT hO hM (by omega)) ?_
  refine tj_if_eq 26 9 dX12_join_6 (by decide) rfl (by first | exact TR.rng hT _ _ _ | exact R31_of _ | exact bi_R _ | (constructor <;> omega)) (fun c6 => ?_) (fun c6 => ?_)
  · exact False.elim (by omega)
  · skip
    refine ev_ald0 10 dX12_join_9 rfl ?_
    refine ev_ild3 11 dX12_join_10 rfl ?_
    refine tc_V1 14 14 dX12_join_11 lkv_X12_136 (tr40 hT) rfl rfl (by first | decide | omega) (Nat.le_of_ble_eq_true rfl) (isFormula_ok hT hO hM (by omega)) ?_
    refine tj_if_eq 26 17 dX12_join_14 (by decide) rfl (by first | exact TR.rng hT _ _ _ | exact R31_of _ | exact bi_R _ | (constructor <;> omega)) (fun c14 => ?_) (fun c14 => ?_)
    · exact False.elim (by omega)
    · skip
      refine ev_ald0 18 dX12_join_17 rfl ?_
      refine ev_ild4 20 dX12_join_18 rfl ?_
      refine tc_V1 23 14 dX12_join_20 lkv_X12_136 (tr40 hT) rfl rfl (by first | decide | omega) (Nat.le_of_ble_eq_true rfl) (isFormula_no hT hO hM hb hn) ?_
      refine tj_if_ne 30 26 dX12_join_23 (by decide) rfl (by first | exact TR.rng hT _ _ _ | exact R31_of _ | exact bi_R _ | (constructor <;> omega)) (fun c23 => ?_) (fun c23 => ?_)
      · exact False.elim (by omega)
      · skip
        refine tj_iconst 27 dX12_join_26 rfl ?_
        refine ev_goto 56 dX12_join_27 (by decide) ?_
        refine tm_V1 59 14 dX12_join_56 lkv_X12_144 (tr40 hT) rfl rfl (by first | decide | omega) (Nat.le_of_ble_eq_true rfl) (goes_n hT (by omega)) (fun h X1 hT hP56 => ?_)
        have hM1 := hM
        have hM : RM O X1 := by rw [hP56]; exact rm_th hM1 _
        have q0 := rm_nC hM
        have q2 := rm_nS hM
        refine tj_if_ne 64 62 dX12_join_59 (by decide) rfl (by first | exact TR.rng hT _ _ _ | exact R31_of _ | exact bi_R _ | (constructor <;> omega)) (fun c59 => ?_) (fun c59 => ?_)
        · exact False.elim (by omega)
        · skip
          refine tj_iconst 63 dX12_join_62 rfl ?_
          exact ev_ireturn (uq_i (by first | rfl | omega | exact bi_dt (by omega) | exact bi_df (by omega) | (skip)) hT (by assumption)) rfl dX12_join_63
set_option maxRecDepth 100000 in
set_option maxHeartbeats 4000000 in
theorem c_X12_join_x2 {g : Gt} {α : AL} {ν : Nat → Nat → Bool} {X : XM} {h : AH} (hT : TR g α ν X h) {O : XM} (hO : WO O) (hM : RM O X) {k : Int} (hk : R31 k) {f : Nat} (hf : (f : Int) < nF O) {f2 : Nat} (hf2 : (f2 : Int) < nF O) {f3 : Nat} (hf3 : (f3 : Int) < nF O) (hm : ¬ (nF O < 60 ∧ 1 + mxI (mxI (O 16 f 0) (O 16 f2 0)) (O 16 f3 0) ≤ 5)) : Mu g α ν M_X12_join 26 [.ref (α 40 0), .int (J k), .int (J (f : Int)), .int (J (f2 : Int)), .int (J (f3 : Int))] h (some (.int (J (0)))) (fun X' => X' = xs X 40 0 0 2) := by
  refine mu_of rfl rfl (ls := [some (.ref (α 40 0)), some (.int (J k)), some (.int (J (f : Int))), some (.int (J (f2 : Int))), some (.int (J (f3 : Int)))]) rfl (Nat.le_of_ble_eq_true rfl) ?_
  show Ev g M_X12_join 26 0 [some (.ref (α 40 0)), some (.int (J k)), some (.int (J (f : Int))), some (.int (J (f2 : Int))), some (.int (J (f3 : Int)))] [] h 0 0 (UQ g α ν (some (.int (J (0)))) (fun X' => X' = xs X 40 0 0 2))
  have q0 := rm_nC hM
  have q1 := wo_nC hO
  have q2 := rm_nS hM
  have q3 := wo_nS hO
  have qf := wo_nF hO
  have qr := wo_nR hO
  have qfM := rm_nF hM
  have qrM := rm_nR hM
  have ed1 := rm_dep hM f hf
  have qd1 := wo_dep hO f hf
  have ed2 := rm_dep hM f2 hf2
  have qd2 := wo_dep hO f2 hf2
  have ed3 := rm_dep hM f3 hf3
  have qd3 := wo_dep hO f3 hf3
  have qm := mxI_ge (O 16 f 0) (O 16 f2 0)
  have qm2 := mxI_ge (mxI (O 16 f 0) (O 16 f2 0)) (O 16 f3 0)
  refine ev_ald0 1 dX12_join_0 rfl ?_
  refine ev_ald0 2 dX12_join_1 rfl ?_
  refine ev_ild2 3 dX12_join_2 rfl ?_
  refine tc_V1 6 14 dX12_join_3 lkv_X12_136 (tr40 hT) rfl rfl (by first | decide | omega) (Nat.le_of_ble_eq_true rfl) (isFormula_ok hT hO hM (by omega)) ?_
  refine tj_if_eq 26 9 dX12_join_6 (by decide) rfl (by first | exact TR.rng hT _ _ _ | exact R31_of _ | exact bi_R _ | (constructor <;> omega)) (fun c6 => ?_) (fun c6 => ?_)
  · exact False.elim (by omega)
  · skip
    refine ev_ald0 10 dX12_join_9 rfl ?_
    refine ev_ild3 11 dX12_join_10 rfl ?_
    refine tc_V1 14 14 dX12_join_11 lkv_X12_136 (tr40 hT) rfl rfl (by first | decide | omega) (Nat.le_of_ble_eq_true rfl) (isFormula_ok hT hO hM (by omega)) ?_
    refine tj_if_eq 26 17 dX12_join_14 (by decide) rfl (by first | exact TR.rng hT _ _ _ | exact R31_of _ | exact bi_R _ | (constructor <;> omega)) (fun c14 => ?_) (fun c14 => ?_)
    · exact False.elim (by omega)
    · skip
      refine ev_ald0 18 dX12_join_17 rfl ?_
      refine ev_ild4 20 dX12_join_18 rfl ?_
      refine tc_V1 23 14 dX12_join_20 lkv_X12_136 (tr40 hT) rfl rfl (by first | decide | omega) (Nat.le_of_ble_eq_true rfl) (isFormula_ok hT hO hM (by omega)) ?_
      refine tj_if_ne 30 26 dX12_join_23 (by decide) rfl (by first | exact TR.rng hT _ _ _ | exact R31_of _ | exact bi_R _ | (constructor <;> omega)) (fun c23 => ?_) (fun c23 => ?_)
      · skip
        refine ev_ald0 31 dX12_join_30 rfl ?_
        refine ev_getfield 34 14 17 fl_X12_103_14 (tr40 hT) rfl dX12_join_31 rfl ?_
        refine tj_bipush 36 dX12_join_34 (by decide) rfl ?_
        refine tj_icmp_eq 51 39 dX12_join_36 (by decide) rfl (by first | exact TR.rng hT _ _ _ | exact R31_of _ | exact bi_R _ | (constructor <;> omega)) (by first | exact TR.rng hT _ _ _ | exact R31_of _ | exact bi_R _ | (constructor <;> omega)) (fun c36 => ?_) (fun c36 => ?_)
        · skip
          refine tj_iconst 52 dX12_join_51 rfl ?_
          refine ev_goto 56 dX12_join_52 (by decide) ?_
          refine tm_V1 59 14 dX12_join_56 lkv_X12_144 (tr40 hT) rfl rfl (by first | decide | omega) (Nat.le_of_ble_eq_true rfl) (goes_n hT (by omega)) (fun h X1 hT hP56 => ?_)
          have hM1 := hM
          have hM : RM O X1 := by rw [hP56]; exact rm_th hM1 _
          have q0 := rm_nC hM
          have q2 := rm_nS hM
          refine tj_if_ne 64 62 dX12_join_59 (by decide) rfl (by first | exact TR.rng hT _ _ _ | exact R31_of _ | exact bi_R _ | (constructor <;> omega)) (fun c59 => ?_) (fun c59 => ?_)
          · exact False.elim (by omega)
          · skip
            refine tj_iconst 63 dX12_join_62 rfl ?_
            exact ev_ireturn (uq_i (by first | rfl | omega | exact bi_dt (by omega) | exact bi_df (by omega) | (skip)) hT (by assumption)) rfl dX12_join_63
        · skip
          refine ev_ald0 40 dX12_join_39 rfl ?_
          refine ev_ild2 41 dX12_join_40 rfl ?_
          refine ev_ild3 42 dX12_join_41 rfl ?_
          refine ev_ild4 44 dX12_join_42 rfl ?_
          refine tc_V3 47 14 dX12_join_44 lkv_X12_140 (tr40 hT) rfl rfl (by first | decide | omega) (Nat.le_of_ble_eq_true rfl) (c_X12_depthOver hT hO hM hf hf2 hf3) ?_
          refine tj_iconst 48 dX12_join_47 rfl ?_
          refine tj_icmp_le 55 51 dX12_join_48 (by decide) rfl (by first | exact TR.rng hT _ _ _ | exact R31_of _ | exact bi_R _ | (constructor <;> omega)) (by first | exact TR.rng hT _ _ _ | exact R31_of _ | exact bi_R _ | (constructor <;> omega)) (fun c48 => ?_) (fun c48 => ?_)
          · exact False.elim (by omega)
          · skip
            refine tj_iconst 52 dX12_join_51 rfl ?_
            refine ev_goto 56 dX12_join_52 (by decide) ?_
            refine tm_V1 59 14 dX12_join_56 lkv_X12_144 (tr40 hT) rfl rfl (by first | decide | omega) (Nat.le_of_ble_eq_true rfl) (goes_n hT (by omega)) (fun h X1 hT hP56 => ?_)
            have hM1 := hM
            have hM : RM O X1 := by rw [hP56]; exact rm_th hM1 _
            have q0 := rm_nC hM
            have q2 := rm_nS hM
            refine tj_if_ne 64 62 dX12_join_59 (by decide) rfl (by first | exact TR.rng hT _ _ _ | exact R31_of _ | exact bi_R _ | (constructor <;> omega)) (fun c59 => ?_) (fun c59 => ?_)
            · exact False.elim (by omega)
            · skip
              refine tj_iconst 63 dX12_join_62 rfl ?_
              exact ev_ireturn (uq_i (by first | rfl | omega | exact bi_dt (by omega) | exact bi_df (by omega) | (skip)) hT (by assumption)) rfl dX12_join_63
      · exact False.elim (by omega)
set_option maxRecDepth 100000 in
set_option maxHeartbeats 4000000 in
theorem c_X12_join_ok {g : Gt} {α : AL} {ν : Nat → Nat → Bool} {X : XM} {h : AH} (hT : TR g α ν X h) {O : XM} (hO : WO O) (hM : RM O X) {k : Int} (hk : R31 k) {f : Nat} (hf : (f : Int) < nF O) {f2 : Nat} (hf2 : (f2 : Int) < nF O) {f3 : Nat} (hf3 : (f3 : Int) < nF O) (hm : nF O < 60 ∧ 1 + mxI (mxI (O 16 f 0) (O 16 f2 0)) (O 16 f3 0) ≤ 5) {n : Nat} (hn : nF O = (n : Int)) : Mu g α ν M_X12_join 26 [.ref (α 40 0), .int (J k), .int (J (f : Int)), .int (J (f2 : Int)), .int (J (f3 : Int))] h (some (.int (J ((n : Int))))) (fun X' => X' = addF (xs X 40 0 0 0) n k f f2 f3 (1 + mxI (mxI (O 16 f 0) (O 16 f2 0)) (O 16 f3 0))) := by
  refine mu_of rfl rfl (ls := [some (.ref (α 40 0)), some (.int (J k)), some (.int (J (f : Int))), some (.int (J (f2 : Int))), some (.int (J (f3 : Int)))]) rfl (Nat.le_of_ble_eq_true rfl) ?_
  show Ev g M_X12_join 26 0 [some (.ref (α 40 0)), some (.int (J k)), some (.int (J (f : Int))), some (.int (J (f2 : Int))), some (.int (J (f3 : Int)))] [] h 0 0 (UQ g α ν (some (.int (J ((n : Int))))) (fun X' => X' = addF (xs X 40 0 0 0) n k f f2 f3 (1 + mxI (mxI (O 16 f 0) (O 16 f2 0)) (O 16 f3 0))))
  have q0 := rm_nC hM
  have q1 := wo_nC hO
  have q2 := rm_nS hM
  have q3 := wo_nS hO
  have qf := wo_nF hO
  have qr := wo_nR hO
  have qfM := rm_nF hM
  have qrM := rm_nR hM
  have ed1 := rm_dep hM f hf
  have qd1 := wo_dep hO f hf
  have ed2 := rm_dep hM f2 hf2
  have qd2 := wo_dep hO f2 hf2
  have ed3 := rm_dep hM f3 hf3
  have qd3 := wo_dep hO f3 hf3
  have qm := mxI_ge (O 16 f 0) (O 16 f2 0)
  have qm2 := mxI_ge (mxI (O 16 f 0) (O 16 f2 0)) (O 16 f3 0)
  refine ev_ald0 1 dX12_join_0 rfl ?_
  refine ev_ald0 2 dX12_join_1 rfl ?_
  refine ev_ild2 3 dX12_join_2 rfl ?_
  refine tc_V1 6 14 dX12_join_3 lkv_X12_136 (tr40 hT) rfl rfl (by first | decide | omega) (Nat.le_of_ble_eq_true rfl) (isFormula_ok hT hO hM (by omega)) ?_
  refine tj_if_eq 26 9 dX12_join_6 (by decide) rfl (by first | exact TR.rng hT _ _ _ | exact R31_of _ | exact bi_R _ | (constructor <;> omega)) (fun c6 => ?_) (fun c6 => ?_)
  · exact False.elim (by omega)
  · skip
    refine ev_ald0 10 dX12_join_9 rfl ?_
    refine ev_ild3 11 dX12_join_10 rfl ?_
    refine tc_V1 14 14 dX12_join_11 lkv_X12_136 (tr40 hT) rfl rfl (by first | decide | omega) (Nat.le_of_ble_eq_true rfl) (isFormula_ok hT hO hM (by omega)) ?_
    refine tj_if_eq 26 17 dX12_join_14 (by decide) rfl (by first | exact TR.rng hT _ _ _ | exact R31_of _ | exact bi_R _ | (constructor <;> omega)) (fun c14 => ?_) (fun c14 => ?_)
    · exact False.elim (by omega)
    · skip
      refine ev_ald0 18 dX12_join_17 rfl ?_
      refine ev_ild4 20 dX12_join_18 rfl ?_
      refine tc_V1 23 14 dX12_join_20 lkv_X12_136 (tr40 hT) rfl rfl (by first | decide | omega) (Nat.le_of_ble_eq_true rfl) (isFormula_ok hT hO hM (by omega)) ?_
      refine tj_if_ne 30 26 dX12_join_23 (by decide) rfl (by first | exact TR.rng hT _ _ _ | exact R31_of _ | exact bi_R _ | (constructor <;> omega)) (fun c23 => ?_) (fun c23 => ?_)
      · skip
        refine ev_ald0 31 dX12_join_30 rfl ?_
        refine ev_getfield 34 14 17 fl_X12_103_14 (tr40 hT) rfl dX12_join_31 rfl ?_
        refine tj_bipush 36 dX12_join_34 (by decide) rfl ?_
        refine tj_icmp_eq 51 39 dX12_join_36 (by decide) rfl (by first | exact TR.rng hT _ _ _ | exact R31_of _ | exact bi_R _ | (constructor <;> omega)) (by first | exact TR.rng hT _ _ _ | exact R31_of _ | exact bi_R _ | (constructor <;> omega)) (fun c36 => ?_) (fun c36 => ?_)
        · exact False.elim (by omega)
        · skip
          refine ev_ald0 40 dX12_join_39 rfl ?_
          refine ev_ild2 41 dX12_join_40 rfl ?_
          refine ev_ild3 42 dX12_join_41 rfl ?_
          refine ev_ild4 44 dX12_join_42 rfl ?_
          refine tc_V3 47 14 dX12_join_44 lkv_X12_140 (tr40 hT) rfl rfl (by first | decide | omega) (Nat.le_of_ble_eq_true rfl) (c_X12_depthOver hT hO hM hf hf2 hf3) ?_
          refine tj_iconst 48 dX12_join_47 rfl ?_
          refine tj_icmp_le 55 51 dX12_join_48 (by decide) rfl (by first | exact TR.rng hT _ _ _ | exact R31_of _ | exact bi_R _ | (constructor <;> omega)) (by first | exact TR.rng hT _ _ _ | exact R31_of _ | exact bi_R _ | (constructor <;> omega)) (fun c48 => ?_) (fun c48 => ?_)
          · skip
            refine tj_iconst 56 dX12_join_55 rfl ?_
            refine tm_V1 59 14 dX12_join_56 lkv_X12_144 (tr40 hT) rfl rfl (by first | decide | omega) (Nat.le_of_ble_eq_true rfl) (goes_0 hT) (fun h X1 hT hP56 => ?_)
            have hM1 := hM
            have hM : RM O X1 := by rw [hP56]; exact rm_th hM1 _
            have q0 := rm_nC hM
            have q2 := rm_nS hM
            refine tj_if_ne 64 62 dX12_join_59 (by decide) rfl (by first | exact TR.rng hT _ _ _ | exact R31_of _ | exact bi_R _ | (constructor <;> omega)) (fun c59 => ?_) (fun c59 => ?_)
            · skip
              have qfM := rm_nF hM
              refine ev_ald0 65 dX12_join_64 rfl ?_
              refine ev_ild1 66 dX12_join_65 rfl ?_
              refine ev_ild2 67 dX12_join_66 rfl ?_
              refine ev_ild3 68 dX12_join_67 rfl ?_
              refine ev_ild4 70 dX12_join_68 rfl ?_
              refine ev_ald0 71 dX12_join_70 rfl ?_
              refine ev_ild2 72 dX12_join_71 rfl ?_
              refine ev_ild3 73 dX12_join_72 rfl ?_
              refine ev_ild4 75 dX12_join_73 rfl ?_
              refine tc_V3 78 14 dX12_join_75 lkv_X12_140 (tr40 hT) rfl rfl (by first | decide | omega) (Nat.le_of_ble_eq_true rfl) (c_X12_depthOver hT hO hM hf hf2 hf3) ?_
              refine tm_V5 81 14 dX12_join_78 lkv_X12_147 (tr40 hT) rfl rfl (by first | decide | omega) (Nat.le_of_ble_eq_true rfl) (c_X12_add hT (n := n) (by omega) (by omega) (by first | exact TR.rng hT _ _ _ | exact R31_of _ | exact bi_R _ | (constructor <;> omega)) (by first | exact TR.rng hT _ _ _ | exact R31_of _ | exact bi_R _ | (constructor <;> omega)) (by first | exact TR.rng hT _ _ _ | exact R31_of _ | exact bi_R _ | (constructor <;> omega)) (by first | exact TR.rng hT _ _ _ | exact R31_of _ | exact bi_R _ | (constructor <;> omega)) (by first | exact TR.rng hT _ _ _ | exact R31_of _ | exact bi_R _ | (constructor <;> omega))) (fun h X1 hT hP78 => ?_)
              exact ev_ireturn (uq_i (by first | rfl | omega | exact bi_dt (by omega) | exact bi_df (by omega) | (skip)) hT (by rw [hP78, hP56])) rfl dX12_join_81
            · exact False.elim (by omega)
          · exact False.elim (by omega)
      · exact False.elim (by omega)
theorem mxI_r (a b : Int) : mxI (mxI a b) b = mxI a b := by
  have h1 := mxI_ge a b
  have h2 := mxI_ge (mxI a b) b
  omega
theorem mxI_i (a : Int) : mxI (mxI a a) a = a := by
  have h1 := mxI_ge a a
  have h2 := mxI_ge (mxI a a) a
  omega
set_option maxRecDepth 100000 in
set_option maxHeartbeats 4000000 in
theorem c_X12_allFormula_b1 {g : Gt} {α : AL} {ν : Nat → Nat → Bool} {X : XM} {h : AH} (hT : TR g α ν X h) {O : XM} (hO : WO O) (hM : RM O X) {b : Int} (hb : R31 b) (hn : ¬ (0 ≤ b ∧ b < nF O)) {a1 : Int} (ha1 : R31 a1) : Mu g α ν M_X12_allFormula 27 [.ref (α 40 0), .int (J b), .int (J a1)] h (some (.int (J 0))) (fun X' => X' = xs X 40 0 0 1) := by
  refine mu_of rfl rfl (ls := [some (.ref (α 40 0)), some (.int (J b)), some (.int (J a1))]) rfl (Nat.le_of_ble_eq_true rfl) ?_
  show Ev g M_X12_allFormula 27 0 [some (.ref (α 40 0)), some (.int (J b)), some (.int (J a1))] [] h 0 0 (UQ g α ν (some (.int (J 0))) (fun X' => X' = xs X 40 0 0 1))
  have q0 := rm_nC hM
  have q1 := wo_nC hO
  have q2 := rm_nS hM
  have q3 := wo_nS hO
  have qf := wo_nF hO
  have qr := wo_nR hO
  have qfM := rm_nF hM
  have qrM := rm_nR hM
  refine ev_ald0 1 dX12_allFormula_0 rfl ?_
  refine tj_iconst 2 dX12_allFormula_1 rfl ?_
  refine ev_ild1 3 dX12_allFormula_2 rfl ?_
  refine ev_ild2 4 dX12_allFormula_3 rfl ?_
  refine ev_ild2 5 dX12_allFormula_4 rfl ?_
  refine tm_V4 8 14 dX12_allFormula_5 lkv_X12_154 (tr40 hT) rfl rfl (by first | decide | omega) (Nat.le_of_ble_eq_true rfl) (c_X12_join_b1 hT hO hM (k := 3) (by first | exact TR.rng hT _ _ _ | exact R31_of _ | exact bi_R _ | (constructor <;> omega)) hb hn ha1 ha1) (fun h X1 hT hP5 => ?_)
  exact ev_ireturn (uq_i (by first | rfl | omega | exact bi_dt (by omega) | exact bi_df (by omega) | (skip)) hT (by exact hP5)) rfl dX12_allFormula_8
set_option maxRecDepth 100000 in
set_option maxHeartbeats 4000000 in
theorem c_X12_allFormula_b2 {g : Gt} {α : AL} {ν : Nat → Nat → Bool} {X : XM} {h : AH} (hT : TR g α ν X h) {O : XM} (hO : WO O) (hM : RM O X) {f : Nat} (hf : (f : Int) < nF O) {b : Int} (hb : R31 b) (hn : ¬ (0 ≤ b ∧ b < nF O)) : Mu g α ν M_X12_allFormula 27 [.ref (α 40 0), .int (J (f : Int)), .int (J b)] h (some (.int (J 0))) (fun X' => X' = xs X 40 0 0 1) := by
  refine mu_of rfl rfl (ls := [some (.ref (α 40 0)), some (.int (J (f : Int))), some (.int (J b))]) rfl (Nat.le_of_ble_eq_true rfl) ?_
  show Ev g M_X12_allFormula 27 0 [some (.ref (α 40 0)), some (.int (J (f : Int))), some (.int (J b))] [] h 0 0 (UQ g α ν (some (.int (J 0))) (fun X' => X' = xs X 40 0 0 1))
  have q0 := rm_nC hM
  have q1 := wo_nC hO
  have q2 := rm_nS hM
  have q3 := wo_nS hO
  have qf := wo_nF hO
  have qr := wo_nR hO
  have qfM := rm_nF hM
  have qrM := rm_nR hM
  refine ev_ald0 1 dX12_allFormula_0 rfl ?_
  refine tj_iconst 2 dX12_allFormula_1 rfl ?_
  refine ev_ild1 3 dX12_allFormula_2 rfl ?_
  refine ev_ild2 4 dX12_allFormula_3 rfl ?_
  refine ev_ild2 5 dX12_allFormula_4 rfl ?_
  refine tm_V4 8 14 dX12_allFormula_5 lkv_X12_154 (tr40 hT) rfl rfl (by first | decide | omega) (Nat.le_of_ble_eq_true rfl) (c_X12_join_b2 hT hO hM (k := 3) (by first | exact TR.rng hT _ _ _ | exact R31_of _ | exact bi_R _ | (constructor <;> omega)) hf hb hn hb) (fun h X1 hT hP5 => ?_)
  exact ev_ireturn (uq_i (by first | rfl | omega | exact bi_dt (by omega) | exact bi_df (by omega) | (skip)) hT (by exact hP5)) rfl dX12_allFormula_8
set_option maxRecDepth 100000 in
set_option maxHeartbeats 4000000 in
theorem c_X12_allFormula_x2 {g : Gt} {α : AL} {ν : Nat → Nat → Bool} {X : XM} {h : AH} (hT : TR g α ν X h) {O : XM} (hO : WO O) (hM : RM O X) {f : Nat} (hf : (f : Int) < nF O) {f2 : Nat} (hf2 : (f2 : Int) < nF O) (hm : ¬ (nF O < 60 ∧ 1 + mxI (O 16 f 0) (O 16 f2 0) ≤ 5)) : Mu g α ν M_X12_allFormula 27 [.ref (α 40 0), .int (J (f : Int)), .int (J (f2 : Int))] h (some (.int (J 0))) (fun X' => X' = xs X 40 0 0 2) := by
  refine mu_of rfl rfl (ls := [some (.ref (α 40 0)), some (.int (J (f : Int))), some (.int (J (f2 : Int)))]) rfl (Nat.le_of_ble_eq_true rfl) ?_
  show Ev g M_X12_allFormula 27 0 [some (.ref (α 40 0)), some (.int (J (f : Int))), some (.int (J (f2 : Int)))] [] h 0 0 (UQ g α ν (some (.int (J 0))) (fun X' => X' = xs X 40 0 0 2))
  have q0 := rm_nC hM
  have q1 := wo_nC hO
  have q2 := rm_nS hM
  have q3 := wo_nS hO
  have qf := wo_nF hO
  have qr := wo_nR hO
  have qfM := rm_nF hM
  have qrM := rm_nR hM
  refine ev_ald0 1 dX12_allFormula_0 rfl ?_
  refine tj_iconst 2 dX12_allFormula_1 rfl ?_
  refine ev_ild1 3 dX12_allFormula_2 rfl ?_
  refine ev_ild2 4 dX12_allFormula_3 rfl ?_
  refine ev_ild2 5 dX12_allFormula_4 rfl ?_
  refine tm_V4 8 14 dX12_allFormula_5 lkv_X12_154 (tr40 hT) rfl rfl (by first | decide | omega) (Nat.le_of_ble_eq_true rfl) (c_X12_join_x2 hT hO hM (k := 3) (by first | exact TR.rng hT _ _ _ | exact R31_of _ | exact bi_R _ | (constructor <;> omega)) hf hf2 hf2 (by rw [mxI_r]; exact hm)) (fun h X1 hT hP5 => ?_)
  exact ev_ireturn (uq_i (by first | rfl | omega | exact bi_dt (by omega) | exact bi_df (by omega) | (skip)) hT (by exact hP5)) rfl dX12_allFormula_8
set_option maxRecDepth 100000 in
set_option maxHeartbeats 4000000 in
theorem c_X12_allFormula_ok {g : Gt} {α : AL} {ν : Nat → Nat → Bool} {X : XM} {h : AH} (hT : TR g α ν X h) {O : XM} (hO : WO O) (hM : RM O X) {f : Nat} (hf : (f : Int) < nF O) {f2 : Nat} (hf2 : (f2 : Int) < nF O) (hm : nF O < 60 ∧ 1 + mxI (O 16 f 0) (O 16 f2 0) ≤ 5) {n : Nat} (hn : nF O = (n : Int)) {O' : XM} (hMK : MKX O (16, n) (fun _ _ => yF 3 (1 + mxI (O 16 f 0) (O 16 f2 0)) 2 f f2 (-1)) 2 O') : Mu g α ν M_X12_allFormula 27 [.ref (α 40 0), .int (J (f : Int)), .int (J (f2 : Int))] h (some (.int (J (nF O)))) (fun X' => RM O' X' ∧ CZ X X' 0) := by
  refine mu_of rfl rfl (ls := [some (.ref (α 40 0)), some (.int (J (f : Int))), some (.int (J (f2 : Int)))]) rfl (Nat.le_of_ble_eq_true rfl) ?_
  show Ev g M_X12_allFormula 27 0 [some (.ref (α 40 0)), some (.int (J (f : Int))), some (.int (J (f2 : Int)))] [] h 0 0 (UQ g α ν (some (.int (J (nF O)))) (fun X' => RM O' X' ∧ CZ X X' 0))
  have q0 := rm_nC hM
  have q1 := wo_nC hO
  have q2 := rm_nS hM
  have q3 := wo_nS hO
  have qf := wo_nF hO
  have qr := wo_nR hO
  have qfM := rm_nF hM
  have qrM := rm_nR hM
  refine ev_ald0 1 dX12_allFormula_0 rfl ?_
  refine tj_iconst 2 dX12_allFormula_1 rfl ?_
  refine ev_ild1 3 dX12_allFormula_2 rfl ?_
  refine ev_ild2 4 dX12_allFormula_3 rfl ?_
  refine ev_ild2 5 dX12_allFormula_4 rfl ?_
  refine tm_V4 8 14 dX12_allFormula_5 lkv_X12_154 (tr40 hT) rfl rfl (by first | decide | omega) (Nat.le_of_ble_eq_true rfl) (c_X12_join_ok hT hO hM (k := 3) (by first | exact TR.rng hT _ _ _ | exact R31_of _ | exact bi_R _ | (constructor <;> omega)) hf hf2 hf2 (by rw [mxI_r]; exact hm) hn) (fun h X1 hT hP5 => ?_)
  exact ev_ireturn (uq_i (by first | rfl | omega | exact bi_dt (by omega) | exact bi_df (by omega) | (skip)) hT (by rw [hP5]; exact ⟨rm_addF (rm_th hM 0) hO hn hMK (by rw [mxI_r]; rfl) (fun z => by first | exact ⟨rfl, rfl, rfl⟩ | exact absurd z (show ¬ (3 : Int) = 0 by decide)) (fun z => by first | exact ⟨rfl, rfl⟩ | exact absurd z (show ¬ (3 : Int) = 1 by decide)) (fun z => by first | exact ⟨rfl, rfl⟩ | exact absurd z (show ¬ (3 : Int) = 2 by decide)) (fun z => by first | exact ⟨rfl, rfl, rfl, fun w => rfl⟩ | exact ⟨rfl, rfl, rfl, fun w => absurd rfl w⟩ | exact ⟨rfl, rfl, (by rw [if_neg (by show ¬ (_ : Int) = -1; omega)]), fun w => rfl⟩ | exact absurd z (show ¬ (3 : Int) = 3 by decide)) (fun z => by first | exact ⟨rfl, rfl⟩ | exact absurd z (show ¬ (3 : Int) = 4 by decide)), cz_addF (CZ.go X 0)⟩)) rfl dX12_allFormula_8
set_option maxRecDepth 100000 in
set_option maxHeartbeats 4000000 in
theorem c_X12_anyFormula_b1 {g : Gt} {α : AL} {ν : Nat → Nat → Bool} {X : XM} {h : AH} (hT : TR g α ν X h) {O : XM} (hO : WO O) (hM : RM O X) {b : Int} (hb : R31 b) (hn : ¬ (0 ≤ b ∧ b < nF O)) {a1 : Int} (ha1 : R31 a1) : Mu g α ν M_X12_anyFormula 27 [.ref (α 40 0), .int (J b), .int (J a1)] h (some (.int (J 0))) (fun X' => X' = xs X 40 0 0 1) := by
  refine mu_of rfl rfl (ls := [some (.ref (α 40 0)), some (.int (J b)), some (.int (J a1))]) rfl (Nat.le_of_ble_eq_true rfl) ?_
  show Ev g M_X12_anyFormula 27 0 [some (.ref (α 40 0)), some (.int (J b)), some (.int (J a1))] [] h 0 0 (UQ g α ν (some (.int (J 0))) (fun X' => X' = xs X 40 0 0 1))
  have q0 := rm_nC hM
  have q1 := wo_nC hO
  have q2 := rm_nS hM
  have q3 := wo_nS hO
  have qf := wo_nF hO
  have qr := wo_nR hO
  have qfM := rm_nF hM
  have qrM := rm_nR hM
  refine ev_ald0 1 dX12_anyFormula_0 rfl ?_
  refine tj_iconst 2 dX12_anyFormula_1 rfl ?_
  refine ev_ild1 3 dX12_anyFormula_2 rfl ?_
  refine ev_ild2 4 dX12_anyFormula_3 rfl ?_
  refine ev_ild2 5 dX12_anyFormula_4 rfl ?_
  refine tm_V4 8 14 dX12_anyFormula_5 lkv_X12_154 (tr40 hT) rfl rfl (by first | decide | omega) (Nat.le_of_ble_eq_true rfl) (c_X12_join_b1 hT hO hM (k := 4) (by first | exact TR.rng hT _ _ _ | exact R31_of _ | exact bi_R _ | (constructor <;> omega)) hb hn ha1 ha1) (fun h X1 hT hP5 => ?_)
  exact ev_ireturn (uq_i (by first | rfl | omega | exact bi_dt (by omega) | exact bi_df (by omega) | (skip)) hT (by exact hP5)) rfl dX12_anyFormula_8
set_option maxRecDepth 100000 in
set_option maxHeartbeats 4000000 in
theorem c_X12_anyFormula_b2 {g : Gt} {α : AL} {ν : Nat → Nat → Bool} {X : XM} {h : AH} (hT : TR g α ν X h) {O : XM} (hO : WO O) (hM : RM O X) {f : Nat} (hf : (f : Int) < nF O) {b : Int} (hb : R31 b) (hn : ¬ (0 ≤ b ∧ b < nF O)) : Mu g α ν M_X12_anyFormula 27 [.ref (α 40 0), .int (J (f : Int)), .int (J b)] h (some (.int (J 0))) (fun X' => X' = xs X 40 0 0 1) := by
  refine mu_of rfl rfl (ls := [some (.ref (α 40 0)), some (.int (J (f : Int))), some (.int (J b))]) rfl (Nat.le_of_ble_eq_true rfl) ?_
  show Ev g M_X12_anyFormula 27 0 [some (.ref (α 40 0)), some (.int (J (f : Int))), some (.int (J b))] [] h 0 0 (UQ g α ν (some (.int (J 0))) (fun X' => X' = xs X 40 0 0 1))
  have q0 := rm_nC hM
  have q1 := wo_nC hO
  have q2 := rm_nS hM
  have q3 := wo_nS hO
  have qf := wo_nF hO
  have qr := wo_nR hO
  have qfM := rm_nF hM
  have qrM := rm_nR hM
  refine ev_ald0 1 dX12_anyFormula_0 rfl ?_
  refine tj_iconst 2 dX12_anyFormula_1 rfl ?_
  refine ev_ild1 3 dX12_anyFormula_2 rfl ?_
  refine ev_ild2 4 dX12_anyFormula_3 rfl ?_
  refine ev_ild2 5 dX12_anyFormula_4 rfl ?_
  refine tm_V4 8 14 dX12_anyFormula_5 lkv_X12_154 (tr40 hT) rfl rfl (by first | decide | omega) (Nat.le_of_ble_eq_true rfl) (c_X12_join_b2 hT hO hM (k := 4) (by first | exact TR.rng hT _ _ _ | exact R31_of _ | exact bi_R _ | (constructor <;> omega)) hf hb hn hb) (fun h X1 hT hP5 => ?_)
  exact ev_ireturn (uq_i (by first | rfl | omega | exact bi_dt (by omega) | exact bi_df (by omega) | (skip)) hT (by exact hP5)) rfl dX12_anyFormula_8
set_option maxRecDepth 100000 in
set_option maxHeartbeats 4000000 in
theorem c_X12_anyFormula_x2 {g : Gt} {α : AL} {ν : Nat → Nat → Bool} {X : XM} {h : AH} (hT : TR g α ν X h) {O : XM} (hO : WO O) (hM : RM O X) {f : Nat} (hf : (f : Int) < nF O) {f2 : Nat} (hf2 : (f2 : Int) < nF O) (hm : ¬ (nF O < 60 ∧ 1 + mxI (O 16 f 0) (O 16 f2 0) ≤ 5)) : Mu g α ν M_X12_anyFormula 27 [.ref (α 40 0), .int (J (f : Int)), .int (J (f2 : Int))] h (some (.int (J 0))) (fun X' => X' = xs X 40 0 0 2) := by
  refine mu_of rfl rfl (ls := [some (.ref (α 40 0)), some (.int (J (f : Int))), some (.int (J (f2 : Int)))]) rfl (Nat.le_of_ble_eq_true rfl) ?_
  show Ev g M_X12_anyFormula 27 0 [some (.ref (α 40 0)), some (.int (J (f : Int))), some (.int (J (f2 : Int)))] [] h 0 0 (UQ g α ν (some (.int (J 0))) (fun X' => X' = xs X 40 0 0 2))
  have q0 := rm_nC hM
  have q1 := wo_nC hO
  have q2 := rm_nS hM
  have q3 := wo_nS hO
  have qf := wo_nF hO
  have qr := wo_nR hO
  have qfM := rm_nF hM
  have qrM := rm_nR hM
  refine ev_ald0 1 dX12_anyFormula_0 rfl ?_
  refine tj_iconst 2 dX12_anyFormula_1 rfl ?_
  refine ev_ild1 3 dX12_anyFormula_2 rfl ?_
  refine ev_ild2 4 dX12_anyFormula_3 rfl ?_
  refine ev_ild2 5 dX12_anyFormula_4 rfl ?_
  refine tm_V4 8 14 dX12_anyFormula_5 lkv_X12_154 (tr40 hT) rfl rfl (by first | decide | omega) (Nat.le_of_ble_eq_true rfl) (c_X12_join_x2 hT hO hM (k := 4) (by first | exact TR.rng hT _ _ _ | exact R31_of _ | exact bi_R _ | (constructor <;> omega)) hf hf2 hf2 (by rw [mxI_r]; exact hm)) (fun h X1 hT hP5 => ?_)
  exact ev_ireturn (uq_i (by first | rfl | omega | exact bi_dt (by omega) | exact bi_df (by omega) | (skip)) hT (by exact hP5)) rfl dX12_anyFormula_8
set_option maxRecDepth 100000 in
set_option maxHeartbeats 4000000 in
theorem c_X12_anyFormula_ok {g : Gt} {α : AL} {ν : Nat → Nat → Bool} {X : XM} {h : AH} (hT : TR g α ν X h) {O : XM} (hO : WO O) (hM : RM O X) {f : Nat} (hf : (f : Int) < nF O) {f2 : Nat} (hf2 : (f2 : Int) < nF O) (hm : nF O < 60 ∧ 1 + mxI (O 16 f 0) (O 16 f2 0) ≤ 5) {n : Nat} (hn : nF O = (n : Int)) {O' : XM} (hMK : MKX O (16, n) (fun _ _ => yF 3 (1 + mxI (O 16 f 0) (O 16 f2 0)) 1 f f2 (-1)) 2 O') : Mu g α ν M_X12_anyFormula 27 [.ref (α 40 0), .int (J (f : Int)), .int (J (f2 : Int))] h (some (.int (J (nF O)))) (fun X' => RM O' X' ∧ CZ X X' 0) := by
  refine mu_of rfl rfl (ls := [some (.ref (α 40 0)), some (.int (J (f : Int))), some (.int (J (f2 : Int)))]) rfl (Nat.le_of_ble_eq_true rfl) ?_
  show Ev g M_X12_anyFormula 27 0 [some (.ref (α 40 0)), some (.int (J (f : Int))), some (.int (J (f2 : Int)))] [] h 0 0 (UQ g α ν (some (.int (J (nF O)))) (fun X' => RM O' X' ∧ CZ X X' 0))
  have q0 := rm_nC hM
  have q1 := wo_nC hO
  have q2 := rm_nS hM
  have q3 := wo_nS hO
  have qf := wo_nF hO
  have qr := wo_nR hO
  have qfM := rm_nF hM
  have qrM := rm_nR hM
  refine ev_ald0 1 dX12_anyFormula_0 rfl ?_
  refine tj_iconst 2 dX12_anyFormula_1 rfl ?_
  refine ev_ild1 3 dX12_anyFormula_2 rfl ?_
  refine ev_ild2 4 dX12_anyFormula_3 rfl ?_
  refine ev_ild2 5 dX12_anyFormula_4 rfl ?_
  refine tm_V4 8 14 dX12_anyFormula_5 lkv_X12_154 (tr40 hT) rfl rfl (by first | decide | omega) (Nat.le_of_ble_eq_true rfl) (c_X12_join_ok hT hO hM (k := 4) (by first | exact TR.rng hT _ _ _ | exact R31_of _ | exact bi_R _ | (constructor <;> omega)) hf hf2 hf2 (by rw [mxI_r]; exact hm) hn) (fun h X1 hT hP5 => ?_)
  exact ev_ireturn (uq_i (by first | rfl | omega | exact bi_dt (by omega) | exact bi_df (by omega) | (skip)) hT (by rw [hP5]; exact ⟨rm_addF (rm_th hM 0) hO hn hMK (by rw [mxI_r]; rfl) (fun z => by first | exact ⟨rfl, rfl, rfl⟩ | exact absurd z (show ¬ (3 : Int) = 0 by decide)) (fun z => by first | exact ⟨rfl, rfl⟩ | exact absurd z (show ¬ (3 : Int) = 1 by decide)) (fun z => by first | exact ⟨rfl, rfl⟩ | exact absurd z (show ¬ (3 : Int) = 2 by decide)) (fun z => by first | exact ⟨rfl, rfl, rfl, fun w => rfl⟩ | exact ⟨rfl, rfl, rfl, fun w => absurd rfl w⟩ | exact ⟨rfl, rfl, (by rw [if_neg (by show ¬ (_ : Int) = -1; omega)]), fun w => rfl⟩ | exact absurd z (show ¬ (3 : Int) = 3 by decide)) (fun z => by first | exact ⟨rfl, rfl⟩ | exact absurd z (show ¬ (3 : Int) = 4 by decide)), cz_addF (CZ.go X 0)⟩)) rfl dX12_anyFormula_8
set_option maxRecDepth 100000 in
set_option maxHeartbeats 4000000 in
theorem c_X12_twoFormula_b1 {g : Gt} {α : AL} {ν : Nat → Nat → Bool} {X : XM} {h : AH} (hT : TR g α ν X h) {O : XM} (hO : WO O) (hM : RM O X) {b : Int} (hb : R31 b) (hn : ¬ (0 ≤ b ∧ b < nF O)) {a1 : Int} (ha1 : R31 a1) {a2 : Int} (ha2 : R31 a2) : Mu g α ν M_X12_twoFormula 27 [.ref (α 40 0), .int (J b), .int (J a1), .int (J a2)] h (some (.int (J 0))) (fun X' => X' = xs X 40 0 0 1) := by
  refine mu_of rfl rfl (ls := [some (.ref (α 40 0)), some (.int (J b)), some (.int (J a1)), some (.int (J a2))]) rfl (Nat.le_of_ble_eq_true rfl) ?_
  show Ev g M_X12_twoFormula 27 0 [some (.ref (α 40 0)), some (.int (J b)), some (.int (J a1)), some (.int (J a2))] [] h 0 0 (UQ g α ν (some (.int (J 0))) (fun X' => X' = xs X 40 0 0 1))
  have q0 := rm_nC hM
  have q1 := wo_nC hO
  have q2 := rm_nS hM
  have q3 := wo_nS hO
  have qf := wo_nF hO
  have qr := wo_nR hO
  have qfM := rm_nF hM
  have qrM := rm_nR hM
  refine ev_ald0 1 dX12_twoFormula_0 rfl ?_
  refine tj_iconst 2 dX12_twoFormula_1 rfl ?_
  refine ev_ild1 3 dX12_twoFormula_2 rfl ?_
  refine ev_ild2 4 dX12_twoFormula_3 rfl ?_
  refine ev_ild3 5 dX12_twoFormula_4 rfl ?_
  refine tm_V4 8 14 dX12_twoFormula_5 lkv_X12_154 (tr40 hT) rfl rfl (by first | decide | omega) (Nat.le_of_ble_eq_true rfl) (c_X12_join_b1 hT hO hM (k := 5) (by first | exact TR.rng hT _ _ _ | exact R31_of _ | exact bi_R _ | (constructor <;> omega)) hb hn ha1 ha2) (fun h X1 hT hP5 => ?_)
  exact ev_ireturn (uq_i (by first | rfl | omega | exact bi_dt (by omega) | exact bi_df (by omega) | (skip)) hT (by exact hP5)) rfl dX12_twoFormula_8
set_option maxRecDepth 100000 in
set_option maxHeartbeats 4000000 in
theorem c_X12_twoFormula_b2 {g : Gt} {α : AL} {ν : Nat → Nat → Bool} {X : XM} {h : AH} (hT : TR g α ν X h) {O : XM} (hO : WO O) (hM : RM O X) {f : Nat} (hf : (f : Int) < nF O) {b : Int} (hb : R31 b) (hn : ¬ (0 ≤ b ∧ b < nF O)) {a2 : Int} (ha2 : R31 a2) : Mu g α ν M_X12_twoFormula 27 [.ref (α 40 0), .int (J (f : Int)), .int (J b), .int (J a2)] h (some (.int (J 0))) (fun X' => X' = xs X 40 0 0 1) := by
  refine mu_of rfl rfl (ls := [some (.ref (α 40 0)), some (.int (J (f : Int))), some (.int (J b)), some (.int (J a2))]) rfl (Nat.le_of_ble_eq_true rfl) ?_
  show Ev g M_X12_twoFormula 27 0 [some (.ref (α 40 0)), some (.int (J (f : Int))), some (.int (J b)), some (.int (J a2))] [] h 0 0 (UQ g α ν (some (.int (J 0))) (fun X' => X' = xs X 40 0 0 1))
  have q0 := rm_nC hM
  have q1 := wo_nC hO
  have q2 := rm_nS hM
  have q3 := wo_nS hO
  have qf := wo_nF hO
  have qr := wo_nR hO
  have qfM := rm_nF hM
  have qrM := rm_nR hM
  refine ev_ald0 1 dX12_twoFormula_0 rfl ?_
  refine tj_iconst 2 dX12_twoFormula_1 rfl ?_
  refine ev_ild1 3 dX12_twoFormula_2 rfl ?_
  refine ev_ild2 4 dX12_twoFormula_3 rfl ?_
  refine ev_ild3 5 dX12_twoFormula_4 rfl ?_
  refine tm_V4 8 14 dX12_twoFormula_5 lkv_X12_154 (tr40 hT) rfl rfl (by first | decide | omega) (Nat.le_of_ble_eq_true rfl) (c_X12_join_b2 hT hO hM (k := 5) (by first | exact TR.rng hT _ _ _ | exact R31_of _ | exact bi_R _ | (constructor <;> omega)) hf hb hn ha2) (fun h X1 hT hP5 => ?_)
  exact ev_ireturn (uq_i (by first | rfl | omega | exact bi_dt (by omega) | exact bi_df (by omega) | (skip)) hT (by exact hP5)) rfl dX12_twoFormula_8
set_option maxRecDepth 100000 in
set_option maxHeartbeats 4000000 in
theorem c_X12_twoFormula_b3 {g : Gt} {α : AL} {ν : Nat → Nat → Bool} {X : XM} {h : AH} (hT : TR g α ν X h) {O : XM} (hO : WO O) (hM : RM O X) {f : Nat} (hf : (f : Int) < nF O) {f2 : Nat} (hf2 : (f2 : Int) < nF O) {b : Int} (hb : R31 b) (hn : ¬ (0 ≤ b ∧ b < nF O)) : Mu g α ν M_X12_twoFormula 27 [.ref (α 40 0), .int (J (f : Int)), .int (J (f2 : Int)), .int (J b)] h (some (.int (J 0))) (fun X' => X' = xs X 40 0 0 1) := by
  refine mu_of rfl rfl (ls := [some (.ref (α 40 0)), some (.int (J (f : Int))), some (.int (J (f2 : Int))), some (.int (J b))]) rfl (Nat.le_of_ble_eq_true rfl) ?_
  show Ev g M_X12_twoFormula 27 0 [some (.ref (α 40 0)), some (.int (J (f : Int))), some (.int (J (f2 : Int))), some (.int (J b))] [] h 0 0 (UQ g α ν (some (.int (J 0))) (fun X' => X' = xs X 40 0 0 1))
  have q0 := rm_nC hM
  have q1 := wo_nC hO
  have q2 := rm_nS hM
  have q3 := wo_nS hO
  have qf := wo_nF hO
  have qr := wo_nR hO
  have qfM := rm_nF hM
  have qrM := rm_nR hM
  refine ev_ald0 1 dX12_twoFormula_0 rfl ?_
  refine tj_iconst 2 dX12_twoFormula_1 rfl ?_
  refine ev_ild1 3 dX12_twoFormula_2 rfl ?_
  refine ev_ild2 4 dX12_twoFormula_3 rfl ?_
  refine ev_ild3 5 dX12_twoFormula_4 rfl ?_
  refine tm_V4 8 14 dX12_twoFormula_5 lkv_X12_154 (tr40 hT) rfl rfl (by first | decide | omega) (Nat.le_of_ble_eq_true rfl) (c_X12_join_b3 hT hO hM (k := 5) (by first | exact TR.rng hT _ _ _ | exact R31_of _ | exact bi_R _ | (constructor <;> omega)) hf hf2 hb hn) (fun h X1 hT hP5 => ?_)
  exact ev_ireturn (uq_i (by first | rfl | omega | exact bi_dt (by omega) | exact bi_df (by omega) | (skip)) hT (by exact hP5)) rfl dX12_twoFormula_8
set_option maxRecDepth 100000 in
set_option maxHeartbeats 4000000 in
theorem c_X12_twoFormula_x2 {g : Gt} {α : AL} {ν : Nat → Nat → Bool} {X : XM} {h : AH} (hT : TR g α ν X h) {O : XM} (hO : WO O) (hM : RM O X) {f : Nat} (hf : (f : Int) < nF O) {f2 : Nat} (hf2 : (f2 : Int) < nF O) {f3 : Nat} (hf3 : (f3 : Int) < nF O) (hm : ¬ (nF O < 60 ∧ 1 + mxI (mxI (O 16 f 0) (O 16 f2 0)) (O 16 f3 0) ≤ 5)) : Mu g α ν M_X12_twoFormula 27 [.ref (α 40 0), .int (J (f : Int)), .int (J (f2 : Int)), .int (J (f3 : Int))] h (some (.int (J 0))) (fun X' => X' = xs X 40 0 0 2) := by
  refine mu_of rfl rfl (ls := [some (.ref (α 40 0)), some (.int (J (f : Int))), some (.int (J (f2 : Int))), some (.int (J (f3 : Int)))]) rfl (Nat.le_of_ble_eq_true rfl) ?_
  show Ev g M_X12_twoFormula 27 0 [some (.ref (α 40 0)), some (.int (J (f : Int))), some (.int (J (f2 : Int))), some (.int (J (f3 : Int)))] [] h 0 0 (UQ g α ν (some (.int (J 0))) (fun X' => X' = xs X 40 0 0 2))
  have q0 := rm_nC hM
  have q1 := wo_nC hO
  have q2 := rm_nS hM
  have q3 := wo_nS hO
  have qf := wo_nF hO
  have qr := wo_nR hO
  have qfM := rm_nF hM
  have qrM := rm_nR hM
  refine ev_ald0 1 dX12_twoFormula_0 rfl ?_
  refine tj_iconst 2 dX12_twoFormula_1 rfl ?_
  refine ev_ild1 3 dX12_twoFormula_2 rfl ?_
  refine ev_ild2 4 dX12_twoFormula_3 rfl ?_
  refine ev_ild3 5 dX12_twoFormula_4 rfl ?_
  refine tm_V4 8 14 dX12_twoFormula_5 lkv_X12_154 (tr40 hT) rfl rfl (by first | decide | omega) (Nat.le_of_ble_eq_true rfl) (c_X12_join_x2 hT hO hM (k := 5) (by first | exact TR.rng hT _ _ _ | exact R31_of _ | exact bi_R _ | (constructor <;> omega)) hf hf2 hf3 hm) (fun h X1 hT hP5 => ?_)
  exact ev_ireturn (uq_i (by first | rfl | omega | exact bi_dt (by omega) | exact bi_df (by omega) | (skip)) hT (by exact hP5)) rfl dX12_twoFormula_8
set_option maxRecDepth 100000 in
set_option maxHeartbeats 4000000 in
theorem c_X12_twoFormula_ok {g : Gt} {α : AL} {ν : Nat → Nat → Bool} {X : XM} {h : AH} (hT : TR g α ν X h) {O : XM} (hO : WO O) (hM : RM O X) {f : Nat} (hf : (f : Int) < nF O) {f2 : Nat} (hf2 : (f2 : Int) < nF O) {f3 : Nat} (hf3 : (f3 : Int) < nF O) (hm : nF O < 60 ∧ 1 + mxI (mxI (O 16 f 0) (O 16 f2 0)) (O 16 f3 0) ≤ 5) {n : Nat} (hn : nF O = (n : Int)) {O' : XM} (hMK : MKX O (16, n) (fun _ _ => yF 3 (1 + mxI (mxI (O 16 f 0) (O 16 f2 0)) (O 16 f3 0)) 2 f f2 f3) 2 O') : Mu g α ν M_X12_twoFormula 27 [.ref (α 40 0), .int (J (f : Int)), .int (J (f2 : Int)), .int (J (f3 : Int))] h (some (.int (J (nF O)))) (fun X' => RM O' X' ∧ CZ X X' 0) := by
  refine mu_of rfl rfl (ls := [some (.ref (α 40 0)), some (.int (J (f : Int))), some (.int (J (f2 : Int))), some (.int (J (f3 : Int)))]) rfl (Nat.le_of_ble_eq_true rfl) ?_
  show Ev g M_X12_twoFormula 27 0 [some (.ref (α 40 0)), some (.int (J (f : Int))), some (.int (J (f2 : Int))), some (.int (J (f3 : Int)))] [] h 0 0 (UQ g α ν (some (.int (J (nF O)))) (fun X' => RM O' X' ∧ CZ X X' 0))
  have q0 := rm_nC hM
  have q1 := wo_nC hO
  have q2 := rm_nS hM
  have q3 := wo_nS hO
  have qf := wo_nF hO
  have qr := wo_nR hO
  have qfM := rm_nF hM
  have qrM := rm_nR hM
  refine ev_ald0 1 dX12_twoFormula_0 rfl ?_
  refine tj_iconst 2 dX12_twoFormula_1 rfl ?_
  refine ev_ild1 3 dX12_twoFormula_2 rfl ?_
  refine ev_ild2 4 dX12_twoFormula_3 rfl ?_
  refine ev_ild3 5 dX12_twoFormula_4 rfl ?_
  refine tm_V4 8 14 dX12_twoFormula_5 lkv_X12_154 (tr40 hT) rfl rfl (by first | decide | omega) (Nat.le_of_ble_eq_true rfl) (c_X12_join_ok hT hO hM (k := 5) (by first | exact TR.rng hT _ _ _ | exact R31_of _ | exact bi_R _ | (constructor <;> omega)) hf hf2 hf3 hm hn) (fun h X1 hT hP5 => ?_)
  exact ev_ireturn (uq_i (by first | rfl | omega | exact bi_dt (by omega) | exact bi_df (by omega) | (skip)) hT (by rw [hP5]; exact ⟨rm_addF (rm_th hM 0) hO hn hMK rfl (fun z => by first | exact ⟨rfl, rfl, rfl⟩ | exact absurd z (show ¬ (3 : Int) = 0 by decide)) (fun z => by first | exact ⟨rfl, rfl⟩ | exact absurd z (show ¬ (3 : Int) = 1 by decide)) (fun z => by first | exact ⟨rfl, rfl⟩ | exact absurd z (show ¬ (3 : Int) = 2 by decide)) (fun z => by first | exact ⟨rfl, rfl, rfl, fun w => rfl⟩ | exact ⟨rfl, rfl, rfl, fun w => absurd rfl w⟩ | exact ⟨rfl, rfl, (by rw [if_neg (by show ¬ (_ : Int) = -1; omega)]), fun w => rfl⟩ | exact absurd z (show ¬ (3 : Int) = 3 by decide)) (fun z => by first | exact ⟨rfl, rfl⟩ | exact absurd z (show ¬ (3 : Int) = 4 by decide)), cz_addF (CZ.go X 0)⟩)) rfl dX12_twoFormula_8
set_option maxRecDepth 100000 in
set_option maxHeartbeats 4000000 in
theorem c_X12_noneFormula_b1 {g : Gt} {α : AL} {ν : Nat → Nat → Bool} {X : XM} {h : AH} (hT : TR g α ν X h) {O : XM} (hO : WO O) (hM : RM O X) {b : Int} (hb : R31 b) (hn : ¬ (0 ≤ b ∧ b < nF O)) : Mu g α ν M_X12_noneFormula 27 [.ref (α 40 0), .int (J b)] h (some (.int (J 0))) (fun X' => X' = xs X 40 0 0 1) := by
  refine mu_of rfl rfl (ls := [some (.ref (α 40 0)), some (.int (J b))]) rfl (Nat.le_of_ble_eq_true rfl) ?_
  show Ev g M_X12_noneFormula 27 0 [some (.ref (α 40 0)), some (.int (J b))] [] h 0 0 (UQ g α ν (some (.int (J 0))) (fun X' => X' = xs X 40 0 0 1))
  have q0 := rm_nC hM
  have q1 := wo_nC hO
  have q2 := rm_nS hM
  have q3 := wo_nS hO
  have qf := wo_nF hO
  have qr := wo_nR hO
  have qfM := rm_nF hM
  have qrM := rm_nR hM
  refine ev_ald0 1 dX12_noneFormula_0 rfl ?_
  refine tj_bipush 3 dX12_noneFormula_1 (by decide) rfl ?_
  refine ev_ild1 4 dX12_noneFormula_3 rfl ?_
  refine ev_ild1 5 dX12_noneFormula_4 rfl ?_
  refine ev_ild1 6 dX12_noneFormula_5 rfl ?_
  refine tm_V4 9 14 dX12_noneFormula_6 lkv_X12_154 (tr40 hT) rfl rfl (by first | decide | omega) (Nat.le_of_ble_eq_true rfl) (c_X12_join_b1 hT hO hM (k := 6) (by first | exact TR.rng hT _ _ _ | exact R31_of _ | exact bi_R _ | (constructor <;> omega)) hb hn hb hb) (fun h X1 hT hP6 => ?_)
  exact ev_ireturn (uq_i (by first | rfl | omega | exact bi_dt (by omega) | exact bi_df (by omega) | (skip)) hT (by exact hP6)) rfl dX12_noneFormula_9
set_option maxRecDepth 100000 in
set_option maxHeartbeats 4000000 in
theorem c_X12_noneFormula_x2 {g : Gt} {α : AL} {ν : Nat → Nat → Bool} {X : XM} {h : AH} (hT : TR g α ν X h) {O : XM} (hO : WO O) (hM : RM O X) {f : Nat} (hf : (f : Int) < nF O) (hm : ¬ (nF O < 60 ∧ 1 + O 16 f 0 ≤ 5)) : Mu g α ν M_X12_noneFormula 27 [.ref (α 40 0), .int (J (f : Int))] h (some (.int (J 0))) (fun X' => X' = xs X 40 0 0 2) := by
  refine mu_of rfl rfl (ls := [some (.ref (α 40 0)), some (.int (J (f : Int)))]) rfl (Nat.le_of_ble_eq_true rfl) ?_
  show Ev g M_X12_noneFormula 27 0 [some (.ref (α 40 0)), some (.int (J (f : Int)))] [] h 0 0 (UQ g α ν (some (.int (J 0))) (fun X' => X' = xs X 40 0 0 2))
  have q0 := rm_nC hM
  have q1 := wo_nC hO
  have q2 := rm_nS hM
  have q3 := wo_nS hO
  have qf := wo_nF hO
  have qr := wo_nR hO
  have qfM := rm_nF hM
  have qrM := rm_nR hM
  refine ev_ald0 1 dX12_noneFormula_0 rfl ?_
  refine tj_bipush 3 dX12_noneFormula_1 (by decide) rfl ?_
  refine ev_ild1 4 dX12_noneFormula_3 rfl ?_
  refine ev_ild1 5 dX12_noneFormula_4 rfl ?_
  refine ev_ild1 6 dX12_noneFormula_5 rfl ?_
  refine tm_V4 9 14 dX12_noneFormula_6 lkv_X12_154 (tr40 hT) rfl rfl (by first | decide | omega) (Nat.le_of_ble_eq_true rfl) (c_X12_join_x2 hT hO hM (k := 6) (by first | exact TR.rng hT _ _ _ | exact R31_of _ | exact bi_R _ | (constructor <;> omega)) hf hf hf (by rw [mxI_i]; exact hm)) (fun h X1 hT hP6 => ?_)
  exact ev_ireturn (uq_i (by first | rfl | omega | exact bi_dt (by omega) | exact bi_df (by omega) | (skip)) hT (by exact hP6)) rfl dX12_noneFormula_9
set_option maxRecDepth 100000 in
set_option maxHeartbeats 4000000 in
theorem c_X12_noneFormula_ok {g : Gt} {α : AL} {ν : Nat → Nat → Bool} {X : XM} {h : AH} (hT : TR g α ν X h) {O : XM} (hO : WO O) (hM : RM O X) {f : Nat} (hf : (f : Int) < nF O) (hm : nF O < 60 ∧ 1 + O 16 f 0 ≤ 5) {n : Nat} (hn : nF O = (n : Int)) {O' : XM} (hMK : MKX O (16, n) (fun _ _ => yF 4 (1 + O 16 f 0) f 0 0 0) 2 O') : Mu g α ν M_X12_noneFormula 27 [.ref (α 40 0), .int (J (f : Int))] h (some (.int (J (nF O)))) (fun X' => RM O' X' ∧ CZ X X' 0) := by
  refine mu_of rfl rfl (ls := [some (.ref (α 40 0)), some (.int (J (f : Int)))]) rfl (Nat.le_of_ble_eq_true rfl) ?_
  show Ev g M_X12_noneFormula 27 0 [some (.ref (α 40 0)), some (.int (J (f : Int)))] [] h 0 0 (UQ g α ν (some (.int (J (nF O)))) (fun X' => RM O' X' ∧ CZ X X' 0))
  have q0 := rm_nC hM
  have q1 := wo_nC hO
  have q2 := rm_nS hM
  have q3 := wo_nS hO
  have qf := wo_nF hO
  have qr := wo_nR hO
  have qfM := rm_nF hM
  have qrM := rm_nR hM
  refine ev_ald0 1 dX12_noneFormula_0 rfl ?_
  refine tj_bipush 3 dX12_noneFormula_1 (by decide) rfl ?_
  refine ev_ild1 4 dX12_noneFormula_3 rfl ?_
  refine ev_ild1 5 dX12_noneFormula_4 rfl ?_
  refine ev_ild1 6 dX12_noneFormula_5 rfl ?_
  refine tm_V4 9 14 dX12_noneFormula_6 lkv_X12_154 (tr40 hT) rfl rfl (by first | decide | omega) (Nat.le_of_ble_eq_true rfl) (c_X12_join_ok hT hO hM (k := 6) (by first | exact TR.rng hT _ _ _ | exact R31_of _ | exact bi_R _ | (constructor <;> omega)) hf hf hf (by rw [mxI_i]; exact hm) hn) (fun h X1 hT hP6 => ?_)
  exact ev_ireturn (uq_i (by first | rfl | omega | exact bi_dt (by omega) | exact bi_df (by omega) | (skip)) hT (by rw [hP6]; exact ⟨rm_addF (rm_th hM 0) hO hn hMK (by rw [mxI_i]; rfl) (fun z => by first | exact ⟨rfl, rfl, rfl⟩ | exact absurd z (show ¬ (4 : Int) = 0 by decide)) (fun z => by first | exact ⟨rfl, rfl⟩ | exact absurd z (show ¬ (4 : Int) = 1 by decide)) (fun z => by first | exact ⟨rfl, rfl⟩ | exact absurd z (show ¬ (4 : Int) = 2 by decide)) (fun z => by first | exact ⟨rfl, rfl, rfl, fun w => rfl⟩ | exact ⟨rfl, rfl, rfl, fun w => absurd rfl w⟩ | exact ⟨rfl, rfl, (by rw [if_neg (by show ¬ (_ : Int) = -1; omega)]), fun w => rfl⟩ | exact absurd z (show ¬ (4 : Int) = 3 by decide)) (fun z => by first | exact ⟨rfl, rfl⟩ | exact absurd z (show ¬ (4 : Int) = 4 by decide)), cz_addF (CZ.go X 0)⟩)) rfl dX12_noneFormula_9
