/-! THE REFERENCE: the calls that ask -/
/-- what the reference keeps beside (thrown, newSet ..) may change -/
theorem rm_cg {O X X1 : XM} (h : RM O X) (hk : ∀ k, 44 ≤ k → k ≤ 68 → X1 k = X k) (h0 : ∀ j, j = 1 ∨ j = 2 ∨ j = 3 ∨ j = 10 ∨ j = 17 ∨ j = 23 → X1 40 0 j = X 40 0 j) : RM O X1 := by
  have x44 : X1 44 = X 44 := hk 44 (by decide) (by decide)
  have x45 : X1 45 = X 45 := hk 45 (by decide) (by decide)
  have x46 : X1 46 = X 46 := hk 46 (by decide) (by decide)
  have x47 : X1 47 = X 47 := hk 47 (by decide) (by decide)
  have x48 : X1 48 = X 48 := hk 48 (by decide) (by decide)
  have x49 : X1 49 = X 49 := hk 49 (by decide) (by decide)
  have x51 : X1 51 = X 51 := hk 51 (by decide) (by decide)
  have x52 : X1 52 = X 52 := hk 52 (by decide) (by decide)
  have x53 : X1 53 = X 53 := hk 53 (by decide) (by decide)
  have x54 : X1 54 = X 54 := hk 54 (by decide) (by decide)
  have x55 : X1 55 = X 55 := hk 55 (by decide) (by decide)
  have x56 : X1 56 = X 56 := hk 56 (by decide) (by decide)
  have x58 : X1 58 = X 58 := hk 58 (by decide) (by decide)
  have x59 : X1 59 = X 59 := hk 59 (by decide) (by decide)
  have x60 : X1 60 = X 60 := hk 60 (by decide) (by decide)
  have x61 : X1 61 = X 61 := hk 61 (by decide) (by decide)
  have x62 : X1 62 = X 62 := hk 62 (by decide) (by decide)
  have x64 : X1 64 = X 64 := hk 64 (by decide) (by decide)
  have x65 : X1 65 = X 65 := hk 65 (by decide) (by decide)
  have x66 : X1 66 = X 66 := hk 66 (by decide) (by decide)
  have x67 : X1 67 = X 67 := hk 67 (by decide) (by decide)
  have x68 : X1 68 = X 68 := hk 68 (by decide) (by decide)
  have s1 : X1 40 0 1 = X 40 0 1 := h0 1 (by decide)
  have s2 : X1 40 0 2 = X 40 0 2 := h0 2 (by decide)
  have s3 : X1 40 0 3 = X 40 0 3 := h0 3 (by decide)
  have s10 : X1 40 0 10 = X 40 0 10 := h0 10 (by decide)
  have s17 : X1 40 0 17 = X 40 0 17 := h0 17 (by decide)
  have s23 : X1 40 0 23 = X 40 0 23 := h0 23 (by decide)
  refine ⟨?_, ?_, ?_, ?_, ?_, ?_, ?_, ?_, ?_, ?_, ?_, ?_, ?_, ?_, ?_, ?_, ?_, ?_, ?_, ?_, ?_, ?_, ?_, ?_, ?_, ?_, ?_, ?_, ?_, ?_, ?_, ?_, ?_, trivial⟩
  · simp only [x44, x45, x46, x47, x48, x49, x51, x52, x53, x54, x55, x56, x58, x59, x60, x61, x62, x64, x65, x66, x67, x68, s1, s2, s3, s10, s17, s23]; exact rm_day h
  · simp only [x44, x45, x46, x47, x48, x49, x51, x52, x53, x54, x55, x56, x58, x59, x60, x61, x62, x64, x65, x66, x67, x68, s1, s2, s3, s10, s17, s23]; exact rm_term h
  · simp only [x44, x45, x46, x47, x48, x49, x51, x52, x53, x54, x55, x56, x58, x59, x60, x61, x62, x64, x65, x66, x67, x68, s1, s2, s3, s10, s17, s23]; exact rm_nC h
  · simp only [x44, x45, x46, x47, x48, x49, x51, x52, x53, x54, x55, x56, x58, x59, x60, x61, x62, x64, x65, x66, x67, x68, s1, s2, s3, s10, s17, s23]; exact rm_nS h
  · simp only [x44, x45, x46, x47, x48, x49, x51, x52, x53, x54, x55, x56, x58, x59, x60, x61, x62, x64, x65, x66, x67, x68, s1, s2, s3, s10, s17, s23]; exact rm_nF h
  · simp only [x44, x45, x46, x47, x48, x49, x51, x52, x53, x54, x55, x56, x58, x59, x60, x61, x62, x64, x65, x66, x67, x68, s1, s2, s3, s10, s17, s23]; exact rm_nR h
  · simp only [x44, x45, x46, x47, x48, x49, x51, x52, x53, x54, x55, x56, x58, x59, x60, x61, x62, x64, x65, x66, x67, x68, s1, s2, s3, s10, s17, s23]; exact rm_crd h
  · simp only [x44, x45, x46, x47, x48, x49, x51, x52, x53, x54, x55, x56, x58, x59, x60, x61, x62, x64, x65, x66, x67, x68, s1, s2, s3, s10, s17, s23]; exact rm_sea h
  · simp only [x44, x45, x46, x47, x48, x49, x51, x52, x53, x54, x55, x56, x58, x59, x60, x61, x62, x64, x65, x66, x67, x68, s1, s2, s3, s10, s17, s23]; exact rm_res h
  · simp only [x44, x45, x46, x47, x48, x49, x51, x52, x53, x54, x55, x56, x58, x59, x60, x61, x62, x64, x65, x66, x67, x68, s1, s2, s3, s10, s17, s23]; exact rm_res0 h
  · simp only [x44, x45, x46, x47, x48, x49, x51, x52, x53, x54, x55, x56, x58, x59, x60, x61, x62, x64, x65, x66, x67, x68, s1, s2, s3, s10, s17, s23]; exact rm_req h
  · simp only [x44, x45, x46, x47, x48, x49, x51, x52, x53, x54, x55, x56, x58, x59, x60, x61, x62, x64, x65, x66, x67, x68, s1, s2, s3, s10, s17, s23]; exact rm_wN h
  · simp only [x44, x45, x46, x47, x48, x49, x51, x52, x53, x54, x55, x56, x58, x59, x60, x61, x62, x64, x65, x66, x67, x68, s1, s2, s3, s10, s17, s23]; exact rm_wN0 h
  · simp only [x44, x45, x46, x47, x48, x49, x51, x52, x53, x54, x55, x56, x58, x59, x60, x61, x62, x64, x65, x66, x67, x68, s1, s2, s3, s10, s17, s23]; exact rm_wA h
  · simp only [x44, x45, x46, x47, x48, x49, x51, x52, x53, x54, x55, x56, x58, x59, x60, x61, x62, x64, x65, x66, x67, x68, s1, s2, s3, s10, s17, s23]; exact rm_maj h
  · simp only [x44, x45, x46, x47, x48, x49, x51, x52, x53, x54, x55, x56, x58, x59, x60, x61, x62, x64, x65, x66, x67, x68, s1, s2, s3, s10, s17, s23]; exact rm_tak h
  · simp only [x44, x45, x46, x47, x48, x49, x51, x52, x53, x54, x55, x56, x58, x59, x60, x61, x62, x64, x65, x66, x67, x68, s1, s2, s3, s10, s17, s23]; exact rm_tak0 h
  · simp only [x44, x45, x46, x47, x48, x49, x51, x52, x53, x54, x55, x56, x58, x59, x60, x61, x62, x64, x65, x66, x67, x68, s1, s2, s3, s10, s17, s23]; exact rm_mov h
  · simp only [x44, x45, x46, x47, x48, x49, x51, x52, x53, x54, x55, x56, x58, x59, x60, x61, x62, x64, x65, x66, x67, x68, s1, s2, s3, s10, s17, s23]; exact rm_mov0 h
  · simp only [x44, x45, x46, x47, x48, x49, x51, x52, x53, x54, x55, x56, x58, x59, x60, x61, x62, x64, x65, x66, x67, x68, s1, s2, s3, s10, s17, s23]; exact rm_tm h
  · simp only [x44, x45, x46, x47, x48, x49, x51, x52, x53, x54, x55, x56, x58, x59, x60, x61, x62, x64, x65, x66, x67, x68, s1, s2, s3, s10, s17, s23]; exact rm_tm0 h
  · simp only [x44, x45, x46, x47, x48, x49, x51, x52, x53, x54, x55, x56, x58, x59, x60, x61, x62, x64, x65, x66, x67, x68, s1, s2, s3, s10, s17, s23]; exact rm_tri h
  · simp only [x44, x45, x46, x47, x48, x49, x51, x52, x53, x54, x55, x56, x58, x59, x60, x61, x62, x64, x65, x66, x67, x68, s1, s2, s3, s10, s17, s23]; exact rm_tri0 h
  · simp only [x44, x45, x46, x47, x48, x49, x51, x52, x53, x54, x55, x56, x58, x59, x60, x61, x62, x64, x65, x66, x67, x68, s1, s2, s3, s10, s17, s23]; exact rm_trd h
  · simp only [x44, x45, x46, x47, x48, x49, x51, x52, x53, x54, x55, x56, x58, x59, x60, x61, x62, x64, x65, x66, x67, x68, s1, s2, s3, s10, s17, s23]; exact rm_dep h
  · simp only [x44, x45, x46, x47, x48, x49, x51, x52, x53, x54, x55, x56, x58, x59, x60, x61, x62, x64, x65, x66, x67, x68, s1, s2, s3, s10, s17, s23]; exact rm_f0 h
  · simp only [x44, x45, x46, x47, x48, x49, x51, x52, x53, x54, x55, x56, x58, x59, x60, x61, x62, x64, x65, x66, x67, x68, s1, s2, s3, s10, s17, s23]; exact rm_f1 h
  · simp only [x44, x45, x46, x47, x48, x49, x51, x52, x53, x54, x55, x56, x58, x59, x60, x61, x62, x64, x65, x66, x67, x68, s1, s2, s3, s10, s17, s23]; exact rm_f2 h
  · simp only [x44, x45, x46, x47, x48, x49, x51, x52, x53, x54, x55, x56, x58, x59, x60, x61, x62, x64, x65, x66, x67, x68, s1, s2, s3, s10, s17, s23]; exact rm_f3 h
  · simp only [x44, x45, x46, x47, x48, x49, x51, x52, x53, x54, x55, x56, x58, x59, x60, x61, x62, x64, x65, x66, x67, x68, s1, s2, s3, s10, s17, s23]; exact rm_f4 h
  · simp only [x44, x45, x46, x47, x48, x49, x51, x52, x53, x54, x55, x56, x58, x59, x60, x61, x62, x64, x65, x66, x67, x68, s1, s2, s3, s10, s17, s23]; exact rm_rul h
  · simp only [x44, x45, x46, x47, x48, x49, x51, x52, x53, x54, x55, x56, x58, x59, x60, x61, x62, x64, x65, x66, x67, x68, s1, s2, s3, s10, s17, s23]; exact rm_alw h
  · simp only [x44, x45, x46, x47, x48, x49, x51, x52, x53, x54, x55, x56, x58, x59, x60, x61, x62, x64, x65, x66, x67, x68, s1, s2, s3, s10, s17, s23]; exact rm_deg h
theorem rm_th {O X : XM} (h : RM O X) (v : Int) : RM O (xs X 40 0 0 v) := rm_cg h (fun k h1 h2 => xs_nk (by omega)) (fun j hj => by rw [xs_at, if_neg (by omega)])
set_option maxRecDepth 100000 in
set_option maxHeartbeats 4000000 in
theorem c_X12_goesOn {g : Gt} {α : AL} {ν : Nat → Nat → Bool} {X : XM} {h : AH} (hT : TR g α ν X h) {a : Int} (ha : R31 a) : Mu g α ν M_X12_goesOn 0 [.ref (α 40 0), .int (J a)] h (some (.int (J (bi (decide (a = 0)))))) (fun X' => X' = xs X 40 0 0 a) := by
  refine mu_of rfl rfl (ls := [some (.ref (α 40 0)), some (.int (J a))]) rfl (Nat.le_of_ble_eq_true rfl) ?_
  show Ev g M_X12_goesOn 0 0 [some (.ref (α 40 0)), some (.int (J a))] [] h 0 0 (UQ g α ν (some (.int (J (bi (decide (a = 0)))))) (fun X' => X' = xs X 40 0 0 a))
  refine ev_ald0 1 dX12_goesOn_0 rfl ?_
  refine ev_ild1 2 dX12_goesOn_1 rfl ?_
  refine tv_puti 5 0 .int fl_X12_89_14 fp_14_0 hT (tv40 hT) (fun _ => rfl) rfl (Nat.le_of_ble_eq_true rfl) rfl rfl (by first | exact TR.rng hT _ _ _ | exact R31_of _ | exact bi_R _ | (constructor <;> omega)) dX12_goesOn_2 rfl (fun h hT => ?_)
  refine ev_ild1 6 dX12_goesOn_5 rfl ?_
  refine tj_if_ne 13 9 dX12_goesOn_6 (by decide) rfl (by first | exact TR.rng hT _ _ _ | exact R31_of _ | exact bi_R _ | (constructor <;> omega)) (fun c6 => ?_) (fun c6 => ?_)
  · skip
    refine tj_iconst 14 dX12_goesOn_13 rfl ?_
    exact tz_retU (by first | rfl | omega | exact bi_dt (by omega) | exact bi_df (by omega) | (skip)) hT (by rfl) rfl dX12_goesOn_14
  · skip
    refine tj_iconst 10 dX12_goesOn_9 rfl ?_
    refine ev_goto 14 dX12_goesOn_10 (by decide) ?_
    exact tz_retU (by first | rfl | omega | exact bi_dt (by omega) | exact bi_df (by omega) | (skip)) hT (by rfl) rfl dX12_goesOn_14
theorem goes_0 {g : Gt} {α : AL} {ν : Nat → Nat → Bool} {X : XM} {h : AH} (hT : TR g α ν X h) : Mu g α ν M_X12_goesOn 0 [.ref (α 40 0), .int (J 0)] h (some (.int (J 1))) (fun X' => X' = xs X 40 0 0 0) := c_X12_goesOn hT R31_0
theorem goes_n {g : Gt} {α : AL} {ν : Nat → Nat → Bool} {X : XM} {h : AH} (hT : TR g α ν X h) {a : Int} (ha : 0 < a ∧ a < 9) : Mu g α ν M_X12_goesOn 0 [.ref (α 40 0), .int (J a)] h (some (.int (J 0))) (fun X' => X' = xs X 40 0 0 a) := by
  have c := c_X12_goesOn hT (a := a) ⟨by omega, by omega⟩
  rw [decide_eq_false (by omega)] at c
  exact c
theorem isStudent_ok {g : Gt} {α : AL} {ν : Nat → Nat → Bool} {X : XM} {h : AH} (hT : TR g α ν X h) {O : XM} (hO : WO O) (hM : RM O X) {j : Nat} (hj : (j : Int) < nS O) : Pr g M_X12_isStudent 1 [.ref (α 40 0), .int (J (j : Int))] h (some (.int (J 1))) := by
  have q := wo_nS hO
  have c := c_X12_isStudent hT hO hM (a := (j : Int)) ⟨by omega, by omega⟩
  rw [decide_eq_true (by omega)] at c
  exact c
theorem isStudent_no {g : Gt} {α : AL} {ν : Nat → Nat → Bool} {X : XM} {h : AH} (hT : TR g α ν X h) {O : XM} (hO : WO O) (hM : RM O X) {a : Int} (ha : R31 a) (hn : ¬ (0 ≤ a ∧ a < nS O)) : Pr g M_X12_isStudent 1 [.ref (α 40 0), .int (J a)] h (some (.int (J 0))) := by
  have c := c_X12_isStudent hT hO hM ha
  rw [decide_eq_false hn] at c
  exact c
theorem isCourse_ok {g : Gt} {α : AL} {ν : Nat → Nat → Bool} {X : XM} {h : AH} (hT : TR g α ν X h) {O : XM} (hO : WO O) (hM : RM O X) {j : Nat} (hj : (j : Int) < nC O) : Pr g M_X12_isCourse 1 [.ref (α 40 0), .int (J (j : Int))] h (some (.int (J 1))) := by
  have q := wo_nC hO
  have c := c_X12_isCourse hT hO hM (a := (j : Int)) ⟨by omega, by omega⟩
  rw [decide_eq_true (by omega)] at c
  exact c
theorem isCourse_no {g : Gt} {α : AL} {ν : Nat → Nat → Bool} {X : XM} {h : AH} (hT : TR g α ν X h) {O : XM} (hO : WO O) (hM : RM O X) {a : Int} (ha : R31 a) (hn : ¬ (0 ≤ a ∧ a < nC O)) : Pr g M_X12_isCourse 1 [.ref (α 40 0), .int (J a)] h (some (.int (J 0))) := by
  have c := c_X12_isCourse hT hO hM ha
  rw [decide_eq_false hn] at c
  exact c
theorem isFormula_ok {g : Gt} {α : AL} {ν : Nat → Nat → Bool} {X : XM} {h : AH} (hT : TR g α ν X h) {O : XM} (hO : WO O) (hM : RM O X) {j : Nat} (hj : (j : Int) < nF O) : Pr g M_X12_isFormula 1 [.ref (α 40 0), .int (J (j : Int))] h (some (.int (J 1))) := by
  have q := wo_nF hO
  have c := c_X12_isFormula hT hO hM (a := (j : Int)) ⟨by omega, by omega⟩
  rw [decide_eq_true (by omega)] at c
  exact c
theorem isFormula_no {g : Gt} {α : AL} {ν : Nat → Nat → Bool} {X : XM} {h : AH} (hT : TR g α ν X h) {O : XM} (hO : WO O) (hM : RM O X) {a : Int} (ha : R31 a) (hn : ¬ (0 ≤ a ∧ a < nF O)) : Pr g M_X12_isFormula 1 [.ref (α 40 0), .int (J a)] h (some (.int (J 0))) := by
  have c := c_X12_isFormula hT hO hM ha
  rw [decide_eq_false hn] at c
  exact c
set_option maxRecDepth 100000 in
set_option maxHeartbeats 4000000 in
theorem c_X12_isInOrWaits {g : Gt} {α : AL} {ν : Nat → Nat → Bool} {X : XM} {h : AH} (hT : TR g α ν X h) {O : XM} (hO : WO O) (hM : RM O X) {s : Nat} (hs : (s : Int) < nS O) {c : Nat} (hc : (c : Int) < nC O) : Pr g M_X12_isInOrWaits 1 [.ref (α 40 0), .int (J (s : Int)), .int (J (c : Int))] h (some (.int (J (bi (tak O s c || decide (place O c s ≠ -1)))))) := by
  refine pr_of rfl rfl (ls := [some (.ref (α 40 0)), some (.int (J (s : Int))), some (.int (J (c : Int)))]) rfl (Nat.le_of_ble_eq_true rfl) ?_
  show Ev g M_X12_isInOrWaits 1 0 [some (.ref (α 40 0)), some (.int (J (s : Int))), some (.int (J (c : Int)))] [] h 0 0 (PQ (some (.int (J (bi (tak O s c || decide (place O c s ≠ -1)))))) h)
  have q0 := rm_nC hM
  have q1 := wo_nC hO
  have q2 := rm_nS hM
  have q3 := wo_nS hO
  have wp := place_R hO hc s
  refine ev_ald0 1 dX12_isInOrWaits_0 rfl ?_
  refine ev_getfield 4 14 12 fl_X12_31_14 (tr40 hT) rfl dX12_isInOrWaits_1 rfl ?_
  refine ev_ild1 5 dX12_isInOrWaits_4 rfl ?_
  refine tv_iald 6 (tr52 hT) (s) (by omega) (by omega) (by omega) dX12_isInOrWaits_5 rfl ?_
  refine ev_ild2 7 dX12_isInOrWaits_6 rfl ?_
  refine tc_S2 10 dX12_isInOrWaits_7 lks_X12_106 rfl (by first | decide | omega) (Nat.le_of_ble_eq_true rfl) (has_of (rm_tak hM _ (by omega)) (by omega) rfl : Pr g M_X12_has 0 _ h (some (.int (J (bi (tak O _ _)))))) ?_
  refine tb_if_ne 23 13 dX12_isInOrWaits_10 (by decide) rfl (fun c10 => ?_) (fun c10 => ?_)
  · skip
    refine tj_iconst 24 dX12_isInOrWaits_23 rfl ?_
    refine ev_goto 28 dX12_isInOrWaits_24 (by decide) ?_
    exact tz_ret (by first | rfl | omega | exact bi_dt (by omega) | exact bi_df (by omega) | (first | (rw [c10]; rfl) | (rw [c10, decide_eq_true (by omega)]; rfl) | (rw [c10, decide_eq_false (by omega)]; rfl))) rfl dX12_isInOrWaits_28
  · skip
    refine ev_ald0 14 dX12_isInOrWaits_13 rfl ?_
    refine ev_ild2 15 dX12_isInOrWaits_14 rfl ?_
    refine ev_ild1 16 dX12_isInOrWaits_15 rfl ?_
    refine tc_V2 19 14 dX12_isInOrWaits_16 lkv_X12_202 (tr40 hT) rfl rfl (by first | decide | omega) (Nat.le_of_ble_eq_true rfl) (c_X12_placeIn hT hO hM (by omega) (by omega)) ?_
    refine tj_iconst 20 dX12_isInOrWaits_19 rfl ?_
    refine tj_icmp_eq 27 23 dX12_isInOrWaits_20 (by decide) rfl (by first | exact TR.rng hT _ _ _ | exact R31_of _ | exact bi_R _ | (constructor <;> omega)) (by first | exact TR.rng hT _ _ _ | exact R31_of _ | exact bi_R _ | (constructor <;> omega)) (fun c20 => ?_) (fun c20 => ?_)
    · skip
      refine tj_iconst 28 dX12_isInOrWaits_27 rfl ?_
      exact tz_ret (by first | rfl | omega | exact bi_dt (by omega) | exact bi_df (by omega) | (first | (rw [c10]; rfl) | (rw [c10, decide_eq_true (by omega)]; rfl) | (rw [c10, decide_eq_false (by omega)]; rfl))) rfl dX12_isInOrWaits_28
    · skip
      refine tj_iconst 24 dX12_isInOrWaits_23 rfl ?_
      refine ev_goto 28 dX12_isInOrWaits_24 (by decide) ?_
      exact tz_ret (by first | rfl | omega | exact bi_dt (by omega) | exact bi_df (by omega) | (first | (rw [c10]; rfl) | (rw [c10, decide_eq_true (by omega)]; rfl) | (rw [c10, decide_eq_false (by omega)]; rfl))) rfl dX12_isInOrWaits_28
set_option maxRecDepth 100000 in
set_option maxHeartbeats 4000000 in
theorem c_X12_isTired {g : Gt} {α : AL} {ν : Nat → Nat → Bool} {X : XM} {h : AH} (hT : TR g α ν X h) {O : XM} (hO : WO O) (hM : RM O X) {s : Nat} (hs : (s : Int) < nS O) {c : Nat} (hc : c < 20) : Pr g M_X12_isTired 1 [.ref (α 40 0), .int (J (s : Int)), .int (J (c : Int))] h (some (.int (J (bi (decide (3 ≤ O 9 s c)))))) := by
  refine pr_of rfl rfl (ls := [some (.ref (α 40 0)), some (.int (J (s : Int))), some (.int (J (c : Int)))]) rfl (Nat.le_of_ble_eq_true rfl) ?_
  show Ev g M_X12_isTired 1 0 [some (.ref (α 40 0)), some (.int (J (s : Int))), some (.int (J (c : Int)))] [] h 0 0 (PQ (some (.int (J (bi (decide (3 ≤ O 9 s c)))))) h)
  have q0 := rm_nC hM
  have q1 := wo_nC hO
  have q2 := rm_nS hM
  have q3 := wo_nS hO
  have w1 := rm_tri hM s c hs hc
  have w2 := wo_tri hO s c hs hc
  refine ev_ald0 1 dX12_isTired_0 rfl ?_
  refine ev_getfield 4 14 15 fl_X12_40_14 (tr40 hT) rfl dX12_isTired_1 rfl ?_
  refine ev_ild1 5 dX12_isTired_4 rfl ?_
  refine ev_ild2 6 dX12_isTired_5 rfl ?_
  refine tc_S2 9 dX12_isTired_6 lks_X12_110 rfl (by first | decide | omega) (Nat.le_of_ble_eq_true rfl) c_X12_at ?_
  refine tv_iald 10 (tr55 hT) ((20 * s + c)) (by omega) (by omega) (by omega) dX12_isTired_9 rfl ?_
  refine tj_iconst 11 dX12_isTired_10 rfl ?_
  refine tj_icmp_ne 18 14 dX12_isTired_11 (by decide) rfl (by first | exact TR.rng hT _ _ _ | exact R31_of _ | exact bi_R _ | (constructor <;> omega)) (by first | exact TR.rng hT _ _ _ | exact R31_of _ | exact bi_R _ | (constructor <;> omega)) (fun c11 => ?_) (fun c11 => ?_)
  · skip
    refine tj_iconst 19 dX12_isTired_18 rfl ?_
    exact tz_ret (by first | rfl | omega | exact bi_dt (by omega) | exact bi_df (by omega) | (skip)) rfl dX12_isTired_19
  · skip
    refine tj_iconst 15 dX12_isTired_14 rfl ?_
    refine ev_goto 19 dX12_isTired_15 (by decide) ?_
    exact tz_ret (by first | rfl | omega | exact bi_dt (by omega) | exact bi_df (by omega) | (skip)) rfl dX12_isTired_19
set_option maxRecDepth 100000 in
set_option maxHeartbeats 4000000 in
theorem c_X12_isClosed {g : Gt} {α : AL} {ν : Nat → Nat → Bool} {X : XM} {h : AH} (hT : TR g α ν X h) {O : XM} (hO : WO O) (hM : RM O X) {s : Nat} (hs : (s : Int) < nS O) {c : Nat} (hc : (c : Int) < nC O) : Pr g M_X12_isClosed 3 [.ref (α 40 0), .int (J (s : Int)), .int (J (c : Int))] h (some (.int (J (bi (decide (free O c (O 4 s 0) = 0 ∧ O 1 (4 + c) 2 = 6)))))) := by
  refine pr_of rfl rfl (ls := [some (.ref (α 40 0)), some (.int (J (s : Int))), some (.int (J (c : Int)))]) rfl (Nat.le_of_ble_eq_true rfl) ?_
  show Ev g M_X12_isClosed 3 0 [some (.ref (α 40 0)), some (.int (J (s : Int))), some (.int (J (c : Int)))] [] h 0 0 (PQ (some (.int (J (bi (decide (free O c (O 4 s 0) = 0 ∧ O 1 (4 + c) 2 = 6)))))) h)
  have q0 := rm_nC hM
  have q1 := wo_nC hO
  have q2 := rm_nS hM
  have q3 := wo_nS hO
  have q4 := rm_maj hM s hs
  have q5 := wo_maj hO s hs
  have w1 := rm_wN hM c hc
  have w2 := wo_wN hO c hc
  have w3 := free_0 hO hc (O 4 s 0)
  refine ev_ald0 1 dX12_isClosed_0 rfl ?_
  refine ev_ild2 2 dX12_isClosed_1 rfl ?_
  refine ev_ald0 3 dX12_isClosed_2 rfl ?_
  refine ev_getfield 6 14 11 fl_X12_28_14 (tr40 hT) rfl dX12_isClosed_3 rfl ?_
  refine ev_ild1 7 dX12_isClosed_6 rfl ?_
  refine tv_iald 8 (tr51 hT) (s) (by omega) (by omega) (by omega) dX12_isClosed_7 rfl ?_
  refine tc_V2 11 14 dX12_isClosed_8 lkv_X12_170 (tr40 hT) rfl rfl (by first | decide | omega) (Nat.le_of_ble_eq_true rfl) (frM q4 (c_X12_freeFor hT hO hM (by omega) (by first | exact TR.rng hT _ _ _ | exact R31_of _ | exact bi_R _ | (constructor <;> omega)))) ?_
  refine tj_if_ne 29 14 dX12_isClosed_11 (by decide) rfl (by first | exact TR.rng hT _ _ _ | exact R31_of _ | exact bi_R _ | (constructor <;> omega)) (fun c11 => ?_) (fun c11 => ?_)
  · skip
    refine tj_iconst 30 dX12_isClosed_29 rfl ?_
    exact tz_ret (by first | rfl | omega | exact bi_dt (by omega) | exact bi_df (by omega) | (skip)) rfl dX12_isClosed_30
  · skip
    refine ev_ald0 15 dX12_isClosed_14 rfl ?_
    refine ev_getfield 18 14 8 fl_X12_22_14 (tr40 hT) rfl dX12_isClosed_15 rfl ?_
    refine ev_ild2 19 dX12_isClosed_18 rfl ?_
    refine tv_iald 20 (tr48 hT) (c) (by omega) (by omega) (by omega) dX12_isClosed_19 rfl ?_
    refine tj_bipush 22 dX12_isClosed_20 (by decide) rfl ?_
    refine tj_icmp_ne 29 25 dX12_isClosed_22 (by decide) rfl (by first | exact TR.rng hT _ _ _ | exact R31_of _ | exact bi_R _ | (constructor <;> omega)) (by first | exact TR.rng hT _ _ _ | exact R31_of _ | exact bi_R _ | (constructor <;> omega)) (fun c22 => ?_) (fun c22 => ?_)
    · skip
      refine tj_iconst 30 dX12_isClosed_29 rfl ?_
      exact tz_ret (by first | rfl | omega | exact bi_dt (by omega) | exact bi_df (by omega) | (skip)) rfl dX12_isClosed_30
    · skip
      refine tj_iconst 26 dX12_isClosed_25 rfl ?_
      refine ev_goto 30 dX12_isClosed_26 (by decide) ?_
      exact tz_ret (by first | rfl | omega | exact bi_dt (by omega) | exact bi_df (by omega) | (skip)) rfl dX12_isClosed_30
set_option maxRecDepth 100000 in
set_option maxHeartbeats 4000000 in
theorem c_X12_wouldBe {g : Gt} {α : AL} {ν : Nat → Nat → Bool} {X : XM} {h : AH} (hT : TR g α ν X h) {O : XM} (hO : WO O) (hM : RM O X) {s : Nat} (hs : (s : Int) < nS O) {c : Nat} (hc : (c : Int) < nC O) : Pr g M_X12_wouldBe 17 [.ref (α 40 0), .int (J (s : Int)), .int (J (c : Int))] h (some (.int (J (ltr O s c)))) := by
  refine pr_of rfl rfl (ls := [some (.ref (α 40 0)), some (.int (J (s : Int))), some (.int (J (c : Int)))]) rfl (Nat.le_of_ble_eq_true rfl) ?_
  show Ev g M_X12_wouldBe 17 0 [some (.ref (α 40 0)), some (.int (J (s : Int))), some (.int (J (c : Int)))] [] h 0 0 (PQ (some (.int (J (ltr O s c)))) h)
  have q0 := rm_nC hM
  have q1 := wo_nC hO
  have q2 := rm_nS hM
  have q3 := wo_nS hO
  have q4 := rm_maj hM s hs
  have q5 := wo_maj hO s hs
  have w1 := rm_wN hM c hc
  have w2 := wo_wN hO c hc
  have w3 := free_0 hO hc (O 4 s 0)
  have w4 := rm_day hM
  have w5 := wo_day hO
  refine ev_ald0 1 dX12_wouldBe_0 rfl ?_
  refine ev_getfield 4 14 1 fl_X12_164_14 (tr40 hT) rfl dX12_wouldBe_1 rfl ?_
  refine tj_iconst 5 dX12_wouldBe_4 rfl ?_
  refine tj_icmp_le 11 8 dX12_wouldBe_5 (by decide) rfl (by first | exact TR.rng hT _ _ _ | exact R31_of _ | exact bi_R _ | (constructor <;> omega)) (by first | exact TR.rng hT _ _ _ | exact R31_of _ | exact bi_R _ | (constructor <;> omega)) (fun c5 => ?_) (fun c5 => ?_)
  · skip
    refine ev_ald0 12 dX12_wouldBe_11 rfl ?_
    refine ev_ild1 13 dX12_wouldBe_12 rfl ?_
    refine ev_ild2 14 dX12_wouldBe_13 rfl ?_
    refine tc_V2 17 14 dX12_wouldBe_14 lkv_X12_205 (tr40 hT) rfl rfl (by first | decide | omega) (Nat.le_of_ble_eq_true rfl) (c_X12_isInOrWaits hT hO hM (by omega) (by omega)) ?_
    refine tb_if_eq 23 20 dX12_wouldBe_17 (by decide) rfl (fun c17 => ?_) (fun c17 => ?_)
    · skip
      refine ev_ald0 24 dX12_wouldBe_23 rfl ?_
      refine ev_ild1 25 dX12_wouldBe_24 rfl ?_
      refine ev_ild2 26 dX12_wouldBe_25 rfl ?_
      refine tc_V2 29 14 dX12_wouldBe_26 lkv_X12_176 (tr40 hT) rfl rfl (by first | decide | omega) (Nat.le_of_ble_eq_true rfl) (c_X12_mayTake hT hO hM (by omega) (by omega)) ?_
      refine tb_if_ne 35 32 dX12_wouldBe_29 (by decide) rfl (fun c29 => ?_) (fun c29 => ?_)
      · skip
        refine ev_ald0 36 dX12_wouldBe_35 rfl ?_
        refine ev_ild1 37 dX12_wouldBe_36 rfl ?_
        refine ev_ild2 38 dX12_wouldBe_37 rfl ?_
        refine tc_V2 41 14 dX12_wouldBe_38 lkv_X12_208 (tr40 hT) rfl rfl (by first | decide | omega) (Nat.le_of_ble_eq_true rfl) (c_X12_isTired hT hO hM (by omega) (by omega)) ?_
        refine tb_if_eq 47 44 dX12_wouldBe_41 (by decide) rfl (fun c41 => ?_) (fun c41 => ?_)
        · skip
          refine ev_ald0 48 dX12_wouldBe_47 rfl ?_
          refine ev_ild1 49 dX12_wouldBe_48 rfl ?_
          refine ev_ild2 50 dX12_wouldBe_49 rfl ?_
          refine tc_V2 53 14 dX12_wouldBe_50 lkv_X12_173 (tr40 hT) rfl rfl (by first | decide | omega) (Nat.le_of_ble_eq_true rfl) (c_X12_fits hT hO hM (by omega) (by omega)) ?_
          refine tb_if_ne 59 56 dX12_wouldBe_53 (by decide) rfl (fun c53 => ?_) (fun c53 => ?_)
          · skip
            refine ev_ald0 60 dX12_wouldBe_59 rfl ?_
            refine ev_ild2 61 dX12_wouldBe_60 rfl ?_
            refine ev_ald0 62 dX12_wouldBe_61 rfl ?_
            refine ev_getfield 65 14 11 fl_X12_28_14 (tr40 hT) rfl dX12_wouldBe_62 rfl ?_
            refine ev_ild1 66 dX12_wouldBe_65 rfl ?_
            refine tv_iald 67 (tr51 hT) (s) (by omega) (by omega) (by omega) dX12_wouldBe_66 rfl ?_
            refine tc_V2 70 14 dX12_wouldBe_67 lkv_X12_170 (tr40 hT) rfl rfl (by first | decide | omega) (Nat.le_of_ble_eq_true rfl) (frM q4 (c_X12_freeFor hT hO hM (by omega) (by first | exact TR.rng hT _ _ _ | exact R31_of _ | exact bi_R _ | (constructor <;> omega)))) ?_
            refine tj_if_le 78 73 dX12_wouldBe_70 (by decide) rfl (by first | exact TR.rng hT _ _ _ | exact R31_of _ | exact bi_R _ | (constructor <;> omega)) (fun c70 => ?_) (fun c70 => ?_)
            · skip
              refine ev_ald0 79 dX12_wouldBe_78 rfl ?_
              refine ev_getfield 82 14 8 fl_X12_22_14 (tr40 hT) rfl dX12_wouldBe_79 rfl ?_
              refine ev_ild2 83 dX12_wouldBe_82 rfl ?_
              refine tv_iald 84 (tr48 hT) (c) (by omega) (by omega) (by omega) dX12_wouldBe_83 rfl ?_
              refine tj_bipush 86 dX12_wouldBe_84 (by decide) rfl ?_
              refine tj_icmp_ne 94 89 dX12_wouldBe_86 (by decide) rfl (by first | exact TR.rng hT _ _ _ | exact R31_of _ | exact bi_R _ | (constructor <;> omega)) (by first | exact TR.rng hT _ _ _ | exact R31_of _ | exact bi_R _ | (constructor <;> omega)) (fun c86 => ?_) (fun c86 => ?_)
              · skip
                refine tj_bipush 96 dX12_wouldBe_94 (by decide) rfl ?_
                exact tz_retc (by first | rfl | omega | exact bi_dt (by omega) | exact bi_df (by omega) | (unfold ltr; rw [if_neg (by omega)]; rw [if_neg (fun z => by rcases z with z | z <;> simp [z] at c17)]; rw [if_neg (by rw [c29]; decide), if_neg (of_decide_eq_false c41), if_neg (by rw [c53]; decide)]; first | (rw [if_pos (by omega)]; done) | (rw [if_neg (by omega), if_pos (by omega)]; done) | (rw [if_neg (by omega), if_neg (by omega)]; done))) (ltr_c O s c) rfl dX12_wouldBe_96
              · skip
                refine tj_bipush 91 dX12_wouldBe_89 (by decide) rfl ?_
                refine ev_goto 96 dX12_wouldBe_91 (by decide) ?_
                exact tz_retc (by first | rfl | omega | exact bi_dt (by omega) | exact bi_df (by omega) | (unfold ltr; rw [if_neg (by omega)]; rw [if_neg (fun z => by rcases z with z | z <;> simp [z] at c17)]; rw [if_neg (by rw [c29]; decide), if_neg (of_decide_eq_false c41), if_neg (by rw [c53]; decide)]; first | (rw [if_pos (by omega)]; done) | (rw [if_neg (by omega), if_pos (by omega)]; done) | (rw [if_neg (by omega), if_neg (by omega)]; done))) (ltr_c O s c) rfl dX12_wouldBe_96
            · skip
              refine tj_bipush 75 dX12_wouldBe_73 (by decide) rfl ?_
              refine ev_goto 96 dX12_wouldBe_75 (by decide) ?_
              exact tz_retc (by first | rfl | omega | exact bi_dt (by omega) | exact bi_df (by omega) | (unfold ltr; rw [if_neg (by omega)]; rw [if_neg (fun z => by rcases z with z | z <;> simp [z] at c17)]; rw [if_neg (by rw [c29]; decide), if_neg (of_decide_eq_false c41), if_neg (by rw [c53]; decide)]; first | (rw [if_pos (by omega)]; done) | (rw [if_neg (by omega), if_pos (by omega)]; done) | (rw [if_neg (by omega), if_neg (by omega)]; done))) (ltr_c O s c) rfl dX12_wouldBe_96
          · skip
            refine tj_bipush 58 dX12_wouldBe_56 (by decide) rfl ?_
            exact tz_retc (by first | rfl | omega | exact bi_dt (by omega) | exact bi_df (by omega) | (unfold ltr; rw [if_neg (by omega)]; rw [if_neg (fun z => by rcases z with z | z <;> simp [z] at c17)]; rw [if_neg (by rw [c29]; decide), if_neg (of_decide_eq_false c41), if_pos c53])) (ltr_c O s c) rfl dX12_wouldBe_58
        · skip
          refine tj_bipush 46 dX12_wouldBe_44 (by decide) rfl ?_
          exact tz_retc (by first | rfl | omega | exact bi_dt (by omega) | exact bi_df (by omega) | (unfold ltr; rw [if_neg (by omega)]; rw [if_neg (fun z => by rcases z with z | z <;> simp [z] at c17)]; rw [if_neg (by rw [c29]; decide), if_pos (of_decide_eq_true c41)])) (ltr_c O s c) rfl dX12_wouldBe_46
      · skip
        refine tj_bipush 34 dX12_wouldBe_32 (by decide) rfl ?_
        exact tz_retc (by first | rfl | omega | exact bi_dt (by omega) | exact bi_df (by omega) | (unfold ltr; rw [if_neg (by omega)]; rw [if_neg (fun z => by rcases z with z | z <;> simp [z] at c17)]; rw [if_pos c29])) (ltr_c O s c) rfl dX12_wouldBe_34
    · skip
      refine tj_bipush 22 dX12_wouldBe_20 (by decide) rfl ?_
      exact tz_retc (by first | rfl | omega | exact bi_dt (by omega) | exact bi_df (by omega) | (unfold ltr; rw [if_neg (by omega)]; rw [if_pos (by simpa using c17)])) (ltr_c O s c) rfl dX12_wouldBe_22
  · skip
    refine tj_bipush 10 dX12_wouldBe_8 (by decide) rfl ?_
    exact tz_retc (by first | rfl | omega | exact bi_dt (by omega) | exact bi_df (by omega) | (unfold ltr; rw [if_pos (by omega)])) (ltr_c O s c) rfl dX12_wouldBe_10
set_option maxRecDepth 100000 in
set_option maxHeartbeats 4000000 in
theorem c_X12_majorOf_b1 {g : Gt} {α : AL} {ν : Nat → Nat → Bool} {X : XM} {h : AH} (hT : TR g α ν X h) {O : XM} (hO : WO O) (hM : RM O X) {b : Int} (hb : R31 b) (hn : ¬ (0 ≤ b ∧ b < nS O)) : Mu g α ν M_X12_majorOf 27 [.ref (α 40 0), .int (J b)] h (some (.int (J (0)))) (fun X' => X' = xs X 40 0 0 1) := by
  refine mu_of rfl rfl (ls := [some (.ref (α 40 0)), some (.int (J b))]) rfl (Nat.le_of_ble_eq_true rfl) ?_
  show Ev g M_X12_majorOf 27 0 [some (.ref (α 40 0)), some (.int (J b))] [] h 0 0 (UQ g α ν (some (.int (J (0)))) (fun X' => X' = xs X 40 0 0 1))
  have q0 := rm_nC hM
  have q1 := wo_nC hO
  have q2 := rm_nS hM
  have q3 := wo_nS hO
  refine ev_ald0 1 dX12_majorOf_0 rfl ?_
  refine ev_ald0 2 dX12_majorOf_1 rfl ?_
  refine ev_ild1 3 dX12_majorOf_2 rfl ?_
  refine tc_V1 6 14 dX12_majorOf_3 lkv_X12_158 (tr40 hT) rfl rfl (by first | decide | omega) (Nat.le_of_ble_eq_true rfl) (isStudent_no hT hO hM hb hn) ?_
  refine tj_if_eq 13 9 dX12_majorOf_6 (by decide) rfl (by first | exact TR.rng hT _ _ _ | exact R31_of _ | exact bi_R _ | (constructor <;> omega)) (fun c6 => ?_) (fun c6 => ?_)
  · skip
    refine tj_iconst 14 dX12_majorOf_13 rfl ?_
    refine tm_V1 17 14 dX12_majorOf_14 lkv_X12_144 (tr40 hT) rfl rfl (by first | decide | omega) (Nat.le_of_ble_eq_true rfl) (goes_n hT (by omega)) (fun h X1 hT hP14 => ?_)
    have hM1 := hM
    have hM : RM O X1 := by rw [hP14]; exact rm_th hM1 _
    have q0 := rm_nC hM
    have q2 := rm_nS hM
    refine tj_if_eq 29 20 dX12_majorOf_17 (by decide) rfl (by first | exact TR.rng hT _ _ _ | exact R31_of _ | exact bi_R _ | (constructor <;> omega)) (fun c17 => ?_) (fun c17 => ?_)
    · skip
      refine tj_iconst 30 dX12_majorOf_29 rfl ?_
      exact ev_ireturn (uq_i (by first | rfl | omega | exact bi_dt (by omega) | exact bi_df (by omega) | (skip)) hT (by assumption)) rfl dX12_majorOf_30
    · exact False.elim (by omega)
  · exact False.elim (by omega)
set_option maxRecDepth 100000 in
set_option maxHeartbeats 4000000 in
theorem c_X12_majorOf_ok {g : Gt} {α : AL} {ν : Nat → Nat → Bool} {X : XM} {h : AH} (hT : TR g α ν X h) {O : XM} (hO : WO O) (hM : RM O X) {s : Nat} (hs : (s : Int) < nS O)  : Mu g α ν M_X12_majorOf 27 [.ref (α 40 0), .int (J (s : Int))] h (some (.int (J (O 4 s 0)))) (fun X' => X' = xs X 40 0 0 0) := by
  refine mu_of rfl rfl (ls := [some (.ref (α 40 0)), some (.int (J (s : Int)))]) rfl (Nat.le_of_ble_eq_true rfl) ?_
  show Ev g M_X12_majorOf 27 0 [some (.ref (α 40 0)), some (.int (J (s : Int)))] [] h 0 0 (UQ g α ν (some (.int (J (O 4 s 0)))) (fun X' => X' = xs X 40 0 0 0))
  have q0 := rm_nC hM
  have q1 := wo_nC hO
  have q2 := rm_nS hM
  have q3 := wo_nS hO
  refine ev_ald0 1 dX12_majorOf_0 rfl ?_
  refine ev_ald0 2 dX12_majorOf_1 rfl ?_
  refine ev_ild1 3 dX12_majorOf_2 rfl ?_
  refine tc_V1 6 14 dX12_majorOf_3 lkv_X12_158 (tr40 hT) rfl rfl (by first | decide | omega) (Nat.le_of_ble_eq_true rfl) (isStudent_ok hT hO hM (by omega)) ?_
  refine tj_if_eq 13 9 dX12_majorOf_6 (by decide) rfl (by first | exact TR.rng hT _ _ _ | exact R31_of _ | exact bi_R _ | (constructor <;> omega)) (fun c6 => ?_) (fun c6 => ?_)
  · exact False.elim (by omega)
  · skip
    refine tj_iconst 10 dX12_majorOf_9 rfl ?_
    refine ev_goto 14 dX12_majorOf_10 (by decide) ?_
    refine tm_V1 17 14 dX12_majorOf_14 lkv_X12_144 (tr40 hT) rfl rfl (by first | decide | omega) (Nat.le_of_ble_eq_true rfl) (goes_0 hT) (fun h X1 hT hP14 => ?_)
    have hM1 := hM
    have hM : RM O X1 := by rw [hP14]; exact rm_th hM1 _
    have q0 := rm_nC hM
    have q2 := rm_nS hM
    refine tj_if_eq 29 20 dX12_majorOf_17 (by decide) rfl (by first | exact TR.rng hT _ _ _ | exact R31_of _ | exact bi_R _ | (constructor <;> omega)) (fun c17 => ?_) (fun c17 => ?_)
    · exact False.elim (by omega)
    · skip
      refine ev_ald0 21 dX12_majorOf_20 rfl ?_
      refine ev_getfield 24 14 11 fl_X12_28_14 (tr40 hT) rfl dX12_majorOf_21 rfl ?_
      refine ev_ild1 25 dX12_majorOf_24 rfl ?_
      refine tv_iald 26 (tr51 hT) (s) (by omega) (by omega) (by omega) dX12_majorOf_25 rfl ?_
      refine ev_goto 30 dX12_majorOf_26 (by decide) ?_
      exact ev_ireturn (uq_i (by first | rfl | omega | exact bi_dt (by omega) | exact bi_df (by omega) | (first | exact rm_maj hM s hs | skip)) hT (by assumption)) rfl dX12_majorOf_30
set_option maxRecDepth 100000 in
set_option maxHeartbeats 4000000 in
theorem c_X12_holds_b1 {g : Gt} {α : AL} {ν : Nat → Nat → Bool} {X : XM} {h : AH} (hT : TR g α ν X h) {O : XM} (hO : WO O) (hM : RM O X) {b : Int} (hb : R31 b) (hn : ¬ (0 ≤ b ∧ b < nS O)) {a1 : Int} (ha1 : R31 a1) : Mu g α ν M_X12_holds 27 [.ref (α 40 0), .int (J b), .int (J a1)] h (some (.int (J (bi false)))) (fun X' => X' = xs X 40 0 0 1) := by
  refine mu_of rfl rfl (ls := [some (.ref (α 40 0)), some (.int (J b)), some (.int (J a1))]) rfl (Nat.le_of_ble_eq_true rfl) ?_
  show Ev g M_X12_holds 27 0 [some (.ref (α 40 0)), some (.int (J b)), some (.int (J a1))] [] h 0 0 (UQ g α ν (some (.int (J (bi false)))) (fun X' => X' = xs X 40 0 0 1))
  have q0 := rm_nC hM
  have q1 := wo_nC hO
  have q2 := rm_nS hM
  have q3 := wo_nS hO
  refine ev_ald0 1 dX12_holds_0 rfl ?_
  refine ev_ald0 2 dX12_holds_1 rfl ?_
  refine ev_ild1 3 dX12_holds_2 rfl ?_
  refine tc_V1 6 14 dX12_holds_3 lkv_X12_158 (tr40 hT) rfl rfl (by first | decide | omega) (Nat.le_of_ble_eq_true rfl) (isStudent_no hT hO hM hb hn) ?_
  refine tj_if_ne 13 9 dX12_holds_6 (by decide) rfl (by first | exact TR.rng hT _ _ _ | exact R31_of _ | exact bi_R _ | (constructor <;> omega)) (fun c6 => ?_) (fun c6 => ?_)
  · exact False.elim (by omega)
  · skip
    refine tj_iconst 10 dX12_holds_9 rfl ?_
    refine ev_goto 26 dX12_holds_10 (by decide) ?_
    refine tm_V1 29 14 dX12_holds_26 lkv_X12_144 (tr40 hT) rfl rfl (by first | decide | omega) (Nat.le_of_ble_eq_true rfl) (goes_n hT (by omega)) (fun h X1 hT hP26 => ?_)
    have hM1 := hM
    have hM : RM O X1 := by rw [hP26]; exact rm_th hM1 _
    have q0 := rm_nC hM
    have q2 := rm_nS hM
    refine tj_if_eq 45 32 dX12_holds_29 (by decide) rfl (by first | exact TR.rng hT _ _ _ | exact R31_of _ | exact bi_R _ | (constructor <;> omega)) (fun c29 => ?_) (fun c29 => ?_)
    · skip
      refine tj_iconst 46 dX12_holds_45 rfl ?_
      exact tz_retU (by first | rfl | omega | exact bi_dt (by omega) | exact bi_df (by omega) | (skip)) hT (by assumption) rfl dX12_holds_46
    · exact False.elim (by omega)
set_option maxRecDepth 100000 in
set_option maxHeartbeats 4000000 in
theorem c_X12_holds_b2 {g : Gt} {α : AL} {ν : Nat → Nat → Bool} {X : XM} {h : AH} (hT : TR g α ν X h) {O : XM} (hO : WO O) (hM : RM O X) {s : Nat} (hs : (s : Int) < nS O) {b : Int} (hb : R31 b) (hn : ¬ (0 ≤ b ∧ b < nF O)) : Mu g α ν M_X12_holds 27 [.ref (α 40 0), .int (J (s : Int)), .int (J b)] h (some (.int (J (bi false)))) (fun X' => X' = xs X 40 0 0 2) := by
  refine mu_of rfl rfl (ls := [some (.ref (α 40 0)), some (.int (J (s : Int))), some (.int (J b))]) rfl (Nat.le_of_ble_eq_true rfl) ?_
  show Ev g M_X12_holds 27 0 [some (.ref (α 40 0)), some (.int (J (s : Int))), some (.int (J b))] [] h 0 0 (UQ g α ν (some (.int (J (bi false)))) (fun X' => X' = xs X 40 0 0 2))
  have q0 := rm_nC hM
  have q1 := wo_nC hO
  have q2 := rm_nS hM
  have q3 := wo_nS hO
  refine ev_ald0 1 dX12_holds_0 rfl ?_
  refine ev_ald0 2 dX12_holds_1 rfl ?_
  refine ev_ild1 3 dX12_holds_2 rfl ?_
  refine tc_V1 6 14 dX12_holds_3 lkv_X12_158 (tr40 hT) rfl rfl (by first | decide | omega) (Nat.le_of_ble_eq_true rfl) (isStudent_ok hT hO hM (by omega)) ?_
  refine tj_if_ne 13 9 dX12_holds_6 (by decide) rfl (by first | exact TR.rng hT _ _ _ | exact R31_of _ | exact bi_R _ | (constructor <;> omega)) (fun c6 => ?_) (fun c6 => ?_)
  · skip
    refine ev_ald0 14 dX12_holds_13 rfl ?_
    refine ev_ild2 15 dX12_holds_14 rfl ?_
    refine tc_V1 18 14 dX12_holds_15 lkv_X12_136 (tr40 hT) rfl rfl (by first | decide | omega) (Nat.le_of_ble_eq_true rfl) (isFormula_no hT hO hM hb hn) ?_
    refine tj_if_ne 25 21 dX12_holds_18 (by decide) rfl (by first | exact TR.rng hT _ _ _ | exact R31_of _ | exact bi_R _ | (constructor <;> omega)) (fun c18 => ?_) (fun c18 => ?_)
    · exact False.elim (by omega)
    · skip
      refine tj_iconst 22 dX12_holds_21 rfl ?_
      refine ev_goto 26 dX12_holds_22 (by decide) ?_
      refine tm_V1 29 14 dX12_holds_26 lkv_X12_144 (tr40 hT) rfl rfl (by first | decide | omega) (Nat.le_of_ble_eq_true rfl) (goes_n hT (by omega)) (fun h X1 hT hP26 => ?_)
      have hM1 := hM
      have hM : RM O X1 := by rw [hP26]; exact rm_th hM1 _
      have q0 := rm_nC hM
      have q2 := rm_nS hM
      refine tj_if_eq 45 32 dX12_holds_29 (by decide) rfl (by first | exact TR.rng hT _ _ _ | exact R31_of _ | exact bi_R _ | (constructor <;> omega)) (fun c29 => ?_) (fun c29 => ?_)
      · skip
        refine tj_iconst 46 dX12_holds_45 rfl ?_
        exact tz_retU (by first | rfl | omega | exact bi_dt (by omega) | exact bi_df (by omega) | (skip)) hT (by assumption) rfl dX12_holds_46
      · exact False.elim (by omega)
  · exact False.elim (by omega)
set_option maxRecDepth 100000 in
set_option maxHeartbeats 4000000 in
theorem c_X12_holds_ok {g : Gt} {α : AL} {ν : Nat → Nat → Bool} {X : XM} {h : AH} (hT : TR g α ν X h) {O : XM} (hO : WO O) (hM : RM O X) {s : Nat} (hs : (s : Int) < nS O) {f : Nat} (hf : (f : Int) < nF O)  : Mu g α ν M_X12_holds 27 [.ref (α 40 0), .int (J (s : Int)), .int (J (f : Int))] h (some (.int (J (bi (hol O s f))))) (fun X' => X' = xs X 40 0 0 0) := by
  refine mu_of rfl rfl (ls := [some (.ref (α 40 0)), some (.int (J (s : Int))), some (.int (J (f : Int)))]) rfl (Nat.le_of_ble_eq_true rfl) ?_
  show Ev g M_X12_holds 27 0 [some (.ref (α 40 0)), some (.int (J (s : Int))), some (.int (J (f : Int)))] [] h 0 0 (UQ g α ν (some (.int (J (bi (hol O s f))))) (fun X' => X' = xs X 40 0 0 0))
  have q0 := rm_nC hM
  have q1 := wo_nC hO
  have q2 := rm_nS hM
  have q3 := wo_nS hO
  have qf := wo_nF hO
  refine ev_ald0 1 dX12_holds_0 rfl ?_
  refine ev_ald0 2 dX12_holds_1 rfl ?_
  refine ev_ild1 3 dX12_holds_2 rfl ?_
  refine tc_V1 6 14 dX12_holds_3 lkv_X12_158 (tr40 hT) rfl rfl (by first | decide | omega) (Nat.le_of_ble_eq_true rfl) (isStudent_ok hT hO hM (by omega)) ?_
  refine tj_if_ne 13 9 dX12_holds_6 (by decide) rfl (by first | exact TR.rng hT _ _ _ | exact R31_of _ | exact bi_R _ | (constructor <;> omega)) (fun c6 => ?_) (fun c6 => ?_)
  · skip
    refine ev_ald0 14 dX12_holds_13 rfl ?_
    refine ev_ild2 15 dX12_holds_14 rfl ?_
    refine tc_V1 18 14 dX12_holds_15 lkv_X12_136 (tr40 hT) rfl rfl (by first | decide | omega) (Nat.le_of_ble_eq_true rfl) (isFormula_ok hT hO hM (by omega)) ?_
    refine tj_if_ne 25 21 dX12_holds_18 (by decide) rfl (by first | exact TR.rng hT _ _ _ | exact R31_of _ | exact bi_R _ | (constructor <;> omega)) (fun c18 => ?_) (fun c18 => ?_)
    · skip
      refine tj_iconst 26 dX12_holds_25 rfl ?_
      refine tm_V1 29 14 dX12_holds_26 lkv_X12_144 (tr40 hT) rfl rfl (by first | decide | omega) (Nat.le_of_ble_eq_true rfl) (goes_0 hT) (fun h X1 hT hP26 => ?_)
      have hM1 := hM
      have hM : RM O X1 := by rw [hP26]; exact rm_th hM1 _
      have q0 := rm_nC hM
      have q2 := rm_nS hM
      refine tj_if_eq 45 32 dX12_holds_29 (by decide) rfl (by first | exact TR.rng hT _ _ _ | exact R31_of _ | exact bi_R _ | (constructor <;> omega)) (fun c29 => ?_) (fun c29 => ?_)
      · exact False.elim (by omega)
      · skip
        refine ev_ald0 33 dX12_holds_32 rfl ?_
        refine ev_ild2 34 dX12_holds_33 rfl ?_
        refine ev_ild1 35 dX12_holds_34 rfl ?_
        refine tc_V2 38 14 dX12_holds_35 lkv_X12_130 (tr40 hT) rfl rfl (by first | decide | omega) (Nat.le_of_ble_eq_true rfl) (c_X12_holdsNow_s hT hO hM hs (f : Int) (by omega) (by omega) 14 (by have := wo_dep hO (Int.toNat (f : Int)) (by omega); omega)) ?_
        refine tb_if_eq 45 41 dX12_holds_38 (by decide) rfl (fun c38 => ?_) (fun c38 => ?_)
        · skip
          refine tj_iconst 46 dX12_holds_45 rfl ?_
          exact tz_retU (by first | rfl | omega | exact bi_dt (by omega) | exact bi_df (by omega) | (show _ = bi (holF O (O 8 s) (tak O s) (ernd O s) (Int.toNat (f : Int))); rw [c38]; rfl)) hT (by assumption) rfl dX12_holds_46
        · skip
          refine tj_iconst 42 dX12_holds_41 rfl ?_
          refine ev_goto 46 dX12_holds_42 (by decide) ?_
          exact tz_retU (by first | rfl | omega | exact bi_dt (by omega) | exact bi_df (by omega) | (show _ = bi (holF O (O 8 s) (tak O s) (ernd O s) (Int.toNat (f : Int))); rw [c38]; rfl)) hT (by assumption) rfl dX12_holds_46
    · exact False.elim (by omega)
  · exact False.elim (by omega)
set_option maxRecDepth 100000 in
set_option maxHeartbeats 4000000 in
theorem c_X12_bestMark_b1 {g : Gt} {α : AL} {ν : Nat → Nat → Bool} {X : XM} {h : AH} (hT : TR g α ν X h) {O : XM} (hO : WO O) (hM : RM O X) {b : Int} (hb : R31 b) (hn : ¬ (0 ≤ b ∧ b < nS O)) {a1 : Int} (ha1 : R31 a1) : Mu g α ν M_X12_bestMark 27 [.ref (α 40 0), .int (J b), .int (J a1)] h (some (.int (J (0)))) (fun X' => X' = xs X 40 0 0 1) := by
  refine mu_of rfl rfl (ls := [some (.ref (α 40 0)), some (.int (J b)), some (.int (J a1)), none]) rfl (Nat.le_of_ble_eq_true rfl) ?_
  show Ev g M_X12_bestMark 27 0 [some (.ref (α 40 0)), some (.int (J b)), some (.int (J a1)), none] [] h 0 0 (UQ g α ν (some (.int (J (0)))) (fun X' => X' = xs X 40 0 0 1))
  have q0 := rm_nC hM
  have q1 := wo_nC hO
  have q2 := rm_nS hM
  have q3 := wo_nS hO
  refine ev_ald0 1 dX12_bestMark_0 rfl ?_
  refine ev_ild1 2 dX12_bestMark_1 rfl ?_
  refine tc_V1 5 14 dX12_bestMark_2 lkv_X12_158 (tr40 hT) rfl rfl (by first | decide | omega) (Nat.le_of_ble_eq_true rfl) (isStudent_no hT hO hM hb hn) ?_
  refine tj_if_eq 16 8 dX12_bestMark_5 (by decide) rfl (by first | exact TR.rng hT _ _ _ | exact R31_of _ | exact bi_R _ | (constructor <;> omega)) (fun c5 => ?_) (fun c5 => ?_)
  · skip
    refine tj_iconst 17 dX12_bestMark_16 rfl ?_
    refine ev_goto 35 dX12_bestMark_17 (by decide) ?_
    refine ev_ist3 36 dX12_bestMark_35 rfl (by decide) rfl ?_
    refine ev_ald0 37 dX12_bestMark_36 rfl ?_
    refine ev_ild3 38 dX12_bestMark_37 rfl ?_
    refine tm_V1 41 14 dX12_bestMark_38 lkv_X12_144 (tr40 hT) rfl rfl (by first | decide | omega) (Nat.le_of_ble_eq_true rfl) (goes_n hT (by omega)) (fun h X1 hT hP38 => ?_)
    have hM1 := hM
    have hM : RM O X1 := by rw [hP38]; exact rm_th hM1 _
    have q0 := rm_nC hM
    have q2 := rm_nS hM
    refine tj_if_eq 53 44 dX12_bestMark_41 (by decide) rfl (by first | exact TR.rng hT _ _ _ | exact R31_of _ | exact bi_R _ | (constructor <;> omega)) (fun c41 => ?_) (fun c41 => ?_)
    · skip
      refine tj_iconst 54 dX12_bestMark_53 rfl ?_
      exact ev_ireturn (uq_i (by first | rfl | omega | exact bi_dt (by omega) | exact bi_df (by omega) | (skip)) hT (by assumption)) rfl dX12_bestMark_54
    · exact False.elim (by omega)
  · exact False.elim (by omega)
set_option maxRecDepth 100000 in
set_option maxHeartbeats 4000000 in
theorem c_X12_bestMark_b2 {g : Gt} {α : AL} {ν : Nat → Nat → Bool} {X : XM} {h : AH} (hT : TR g α ν X h) {O : XM} (hO : WO O) (hM : RM O X) {s : Nat} (hs : (s : Int) < nS O) {b : Int} (hb : R31 b) (hn : ¬ (0 ≤ b ∧ b < nC O)) : Mu g α ν M_X12_bestMark 27 [.ref (α 40 0), .int (J (s : Int)), .int (J b)] h (some (.int (J (0)))) (fun X' => X' = xs X 40 0 0 1) := by
  refine mu_of rfl rfl (ls := [some (.ref (α 40 0)), some (.int (J (s : Int))), some (.int (J b)), none]) rfl (Nat.le_of_ble_eq_true rfl) ?_
  show Ev g M_X12_bestMark 27 0 [some (.ref (α 40 0)), some (.int (J (s : Int))), some (.int (J b)), none] [] h 0 0 (UQ g α ν (some (.int (J (0)))) (fun X' => X' = xs X 40 0 0 1))
  have q0 := rm_nC hM
  have q1 := wo_nC hO
  have q2 := rm_nS hM
  have q3 := wo_nS hO
  refine ev_ald0 1 dX12_bestMark_0 rfl ?_
  refine ev_ild1 2 dX12_bestMark_1 rfl ?_
  refine tc_V1 5 14 dX12_bestMark_2 lkv_X12_158 (tr40 hT) rfl rfl (by first | decide | omega) (Nat.le_of_ble_eq_true rfl) (isStudent_ok hT hO hM (by omega)) ?_
  refine tj_if_eq 16 8 dX12_bestMark_5 (by decide) rfl (by first | exact TR.rng hT _ _ _ | exact R31_of _ | exact bi_R _ | (constructor <;> omega)) (fun c5 => ?_) (fun c5 => ?_)
  · exact False.elim (by omega)
  · skip
    refine ev_ald0 9 dX12_bestMark_8 rfl ?_
    refine ev_ild2 10 dX12_bestMark_9 rfl ?_
    refine tc_V1 13 14 dX12_bestMark_10 lkv_X12_151 (tr40 hT) rfl rfl (by first | decide | omega) (Nat.le_of_ble_eq_true rfl) (isCourse_no hT hO hM hb hn) ?_
    refine tj_if_ne 20 16 dX12_bestMark_13 (by decide) rfl (by first | exact TR.rng hT _ _ _ | exact R31_of _ | exact bi_R _ | (constructor <;> omega)) (fun c13 => ?_) (fun c13 => ?_)
    · exact False.elim (by omega)
    · skip
      refine tj_iconst 17 dX12_bestMark_16 rfl ?_
      refine ev_goto 35 dX12_bestMark_17 (by decide) ?_
      refine ev_ist3 36 dX12_bestMark_35 rfl (by decide) rfl ?_
      refine ev_ald0 37 dX12_bestMark_36 rfl ?_
      refine ev_ild3 38 dX12_bestMark_37 rfl ?_
      refine tm_V1 41 14 dX12_bestMark_38 lkv_X12_144 (tr40 hT) rfl rfl (by first | decide | omega) (Nat.le_of_ble_eq_true rfl) (goes_n hT (by omega)) (fun h X1 hT hP38 => ?_)
      have hM1 := hM
      have hM : RM O X1 := by rw [hP38]; exact rm_th hM1 _
      have q0 := rm_nC hM
      have q2 := rm_nS hM
      refine tj_if_eq 53 44 dX12_bestMark_41 (by decide) rfl (by first | exact TR.rng hT _ _ _ | exact R31_of _ | exact bi_R _ | (constructor <;> omega)) (fun c41 => ?_) (fun c41 => ?_)
      · skip
        refine tj_iconst 54 dX12_bestMark_53 rfl ?_
        exact ev_ireturn (uq_i (by first | rfl | omega | exact bi_dt (by omega) | exact bi_df (by omega) | (skip)) hT (by assumption)) rfl dX12_bestMark_54
      · exact False.elim (by omega)
set_option maxRecDepth 100000 in
set_option maxHeartbeats 4000000 in
theorem c_X12_bestMark_ok {g : Gt} {α : AL} {ν : Nat → Nat → Bool} {X : XM} {h : AH} (hT : TR g α ν X h) {O : XM} (hO : WO O) (hM : RM O X) {s : Nat} (hs : (s : Int) < nS O) {c : Nat} (hc : (c : Int) < nC O) (hb : O 8 s c ≠ -1) : Mu g α ν M_X12_bestMark 27 [.ref (α 40 0), .int (J (s : Int)), .int (J (c : Int))] h (some (.int (J (O 8 s c)))) (fun X' => X' = xs X 40 0 0 0) := by
  refine mu_of rfl rfl (ls := [some (.ref (α 40 0)), some (.int (J (s : Int))), some (.int (J (c : Int))), none]) rfl (Nat.le_of_ble_eq_true rfl) ?_
  show Ev g M_X12_bestMark 27 0 [some (.ref (α 40 0)), some (.int (J (s : Int))), some (.int (J (c : Int))), none] [] h 0 0 (UQ g α ν (some (.int (J (O 8 s c)))) (fun X' => X' = xs X 40 0 0 0))
  have q0 := rm_nC hM
  have q1 := wo_nC hO
  have q2 := rm_nS hM
  have q3 := wo_nS hO
  have wb := wo_bst hO s c hs (by omega)
  refine ev_ald0 1 dX12_bestMark_0 rfl ?_
  refine ev_ild1 2 dX12_bestMark_1 rfl ?_
  refine tc_V1 5 14 dX12_bestMark_2 lkv_X12_158 (tr40 hT) rfl rfl (by first | decide | omega) (Nat.le_of_ble_eq_true rfl) (isStudent_ok hT hO hM (by omega)) ?_
  refine tj_if_eq 16 8 dX12_bestMark_5 (by decide) rfl (by first | exact TR.rng hT _ _ _ | exact R31_of _ | exact bi_R _ | (constructor <;> omega)) (fun c5 => ?_) (fun c5 => ?_)
  · exact False.elim (by omega)
  · skip
    refine ev_ald0 9 dX12_bestMark_8 rfl ?_
    refine ev_ild2 10 dX12_bestMark_9 rfl ?_
    refine tc_V1 13 14 dX12_bestMark_10 lkv_X12_151 (tr40 hT) rfl rfl (by first | decide | omega) (Nat.le_of_ble_eq_true rfl) (isCourse_ok hT hO hM (by omega)) ?_
    refine tj_if_ne 20 16 dX12_bestMark_13 (by decide) rfl (by first | exact TR.rng hT _ _ _ | exact R31_of _ | exact bi_R _ | (constructor <;> omega)) (fun c13 => ?_) (fun c13 => ?_)
    · skip
      refine ev_ald0 21 dX12_bestMark_20 rfl ?_
      refine ev_ild1 22 dX12_bestMark_21 rfl ?_
      refine ev_ild2 23 dX12_bestMark_22 rfl ?_
      refine tc_V2 26 14 dX12_bestMark_23 lkv_X12_114 (tr40 hT) rfl rfl (by first | decide | omega) (Nat.le_of_ble_eq_true rfl) (c_X12_bestOf hT hO hM (by omega) (by omega)) ?_
      refine tj_iconst 27 dX12_bestMark_26 rfl ?_
      refine tj_icmp_ne 34 30 dX12_bestMark_27 (by decide) rfl (by first | exact TR.rng hT _ _ _ | exact R31_of _ | exact bi_R _ | (constructor <;> omega)) (by first | exact TR.rng hT _ _ _ | exact R31_of _ | exact bi_R _ | (constructor <;> omega)) (fun c27 => ?_) (fun c27 => ?_)
      · skip
        refine tj_iconst 35 dX12_bestMark_34 rfl ?_
        refine ev_ist3 36 dX12_bestMark_35 rfl (by decide) rfl ?_
        refine ev_ald0 37 dX12_bestMark_36 rfl ?_
        refine ev_ild3 38 dX12_bestMark_37 rfl ?_
        refine tm_V1 41 14 dX12_bestMark_38 lkv_X12_144 (tr40 hT) rfl rfl (by first | decide | omega) (Nat.le_of_ble_eq_true rfl) (goes_0 hT) (fun h X1 hT hP38 => ?_)
        have hM1 := hM
        have hM : RM O X1 := by rw [hP38]; exact rm_th hM1 _
        have q0 := rm_nC hM
        have q2 := rm_nS hM
        refine tj_if_eq 53 44 dX12_bestMark_41 (by decide) rfl (by first | exact TR.rng hT _ _ _ | exact R31_of _ | exact bi_R _ | (constructor <;> omega)) (fun c41 => ?_) (fun c41 => ?_)
        · exact False.elim (by omega)
        · skip
          refine ev_ald0 45 dX12_bestMark_44 rfl ?_
          refine ev_ild1 46 dX12_bestMark_45 rfl ?_
          refine ev_ild2 47 dX12_bestMark_46 rfl ?_
          refine tc_V2 50 14 dX12_bestMark_47 lkv_X12_114 (tr40 hT) rfl rfl (by first | decide | omega) (Nat.le_of_ble_eq_true rfl) (c_X12_bestOf hT hO hM (by omega) (by omega)) ?_
          refine ev_goto 54 dX12_bestMark_50 (by decide) ?_
          exact ev_ireturn (uq_i (by first | rfl | omega | exact bi_dt (by omega) | exact bi_df (by omega) | (skip)) hT (by assumption)) rfl dX12_bestMark_54
      · exact False.elim (by omega)
    · exact False.elim (by omega)
set_option maxRecDepth 100000 in
set_option maxHeartbeats 4000000 in
theorem c_X12_bestMark_x2 {g : Gt} {α : AL} {ν : Nat → Nat → Bool} {X : XM} {h : AH} (hT : TR g α ν X h) {O : XM} (hO : WO O) (hM : RM O X) {s : Nat} (hs : (s : Int) < nS O) {c : Nat} (hc : (c : Int) < nC O) (hb : O 8 s c = -1) : Mu g α ν M_X12_bestMark 27 [.ref (α 40 0), .int (J (s : Int)), .int (J (c : Int))] h (some (.int (J (0)))) (fun X' => X' = xs X 40 0 0 2) := by
  refine mu_of rfl rfl (ls := [some (.ref (α 40 0)), some (.int (J (s : Int))), some (.int (J (c : Int))), none]) rfl (Nat.le_of_ble_eq_true rfl) ?_
  show Ev g M_X12_bestMark 27 0 [some (.ref (α 40 0)), some (.int (J (s : Int))), some (.int (J (c : Int))), none] [] h 0 0 (UQ g α ν (some (.int (J (0)))) (fun X' => X' = xs X 40 0 0 2))
  have q0 := rm_nC hM
  have q1 := wo_nC hO
  have q2 := rm_nS hM
  have q3 := wo_nS hO
  have wb := wo_bst hO s c hs (by omega)
  refine ev_ald0 1 dX12_bestMark_0 rfl ?_
  refine ev_ild1 2 dX12_bestMark_1 rfl ?_
  refine tc_V1 5 14 dX12_bestMark_2 lkv_X12_158 (tr40 hT) rfl rfl (by first | decide | omega) (Nat.le_of_ble_eq_true rfl) (isStudent_ok hT hO hM (by omega)) ?_
  refine tj_if_eq 16 8 dX12_bestMark_5 (by decide) rfl (by first | exact TR.rng hT _ _ _ | exact R31_of _ | exact bi_R _ | (constructor <;> omega)) (fun c5 => ?_) (fun c5 => ?_)
  · exact False.elim (by omega)
  · skip
    refine ev_ald0 9 dX12_bestMark_8 rfl ?_
    refine ev_ild2 10 dX12_bestMark_9 rfl ?_
    refine tc_V1 13 14 dX12_bestMark_10 lkv_X12_151 (tr40 hT) rfl rfl (by first | decide | omega) (Nat.le_of_ble_eq_true rfl) (isCourse_ok hT hO hM (by omega)) ?_
    refine tj_if_ne 20 16 dX12_bestMark_13 (by decide) rfl (by first | exact TR.rng hT _ _ _ | exact R31_of _ | exact bi_R _ | (constructor <;> omega)) (fun c13 => ?_) (fun c13 => ?_)
    · skip
      refine ev_ald0 21 dX12_bestMark_20 rfl ?_
      refine ev_ild1 22 dX12_bestMark_21 rfl ?_
      refine ev_ild2 23 dX12_bestMark_22 rfl ?_
      refine tc_V2 26 14 dX12_bestMark_23 lkv_X12_114 (tr40 hT) rfl rfl (by first | decide | omega) (Nat.le_of_ble_eq_true rfl) (c_X12_bestOf hT hO hM (by omega) (by omega)) ?_
      refine tj_iconst 27 dX12_bestMark_26 rfl ?_
      refine tj_icmp_ne 34 30 dX12_bestMark_27 (by decide) rfl (by first | exact TR.rng hT _ _ _ | exact R31_of _ | exact bi_R _ | (constructor <;> omega)) (by first | exact TR.rng hT _ _ _ | exact R31_of _ | exact bi_R _ | (constructor <;> omega)) (fun c27 => ?_) (fun c27 => ?_)
      · exact False.elim (by omega)
      · skip
        refine tj_iconst 31 dX12_bestMark_30 rfl ?_
        refine ev_goto 35 dX12_bestMark_31 (by decide) ?_
        refine ev_ist3 36 dX12_bestMark_35 rfl (by decide) rfl ?_
        refine ev_ald0 37 dX12_bestMark_36 rfl ?_
        refine ev_ild3 38 dX12_bestMark_37 rfl ?_
        refine tm_V1 41 14 dX12_bestMark_38 lkv_X12_144 (tr40 hT) rfl rfl (by first | decide | omega) (Nat.le_of_ble_eq_true rfl) (goes_n hT (by omega)) (fun h X1 hT hP38 => ?_)
        have hM1 := hM
        have hM : RM O X1 := by rw [hP38]; exact rm_th hM1 _
        have q0 := rm_nC hM
        have q2 := rm_nS hM
        refine tj_if_eq 53 44 dX12_bestMark_41 (by decide) rfl (by first | exact TR.rng hT _ _ _ | exact R31_of _ | exact bi_R _ | (constructor <;> omega)) (fun c41 => ?_) (fun c41 => ?_)
        · skip
          refine tj_iconst 54 dX12_bestMark_53 rfl ?_
          exact ev_ireturn (uq_i (by first | rfl | omega | exact bi_dt (by omega) | exact bi_df (by omega) | (skip)) hT (by assumption)) rfl dX12_bestMark_54
        · exact False.elim (by omega)
    · exact False.elim (by omega)
set_option maxRecDepth 100000 in
set_option maxHeartbeats 4000000 in
theorem c_X12_attempts_b1 {g : Gt} {α : AL} {ν : Nat → Nat → Bool} {X : XM} {h : AH} (hT : TR g α ν X h) {O : XM} (hO : WO O) (hM : RM O X) {b : Int} (hb : R31 b) (hn : ¬ (0 ≤ b ∧ b < nS O)) {a1 : Int} (ha1 : R31 a1) : Mu g α ν M_X12_attempts 27 [.ref (α 40 0), .int (J b), .int (J a1)] h (some (.int (J (0)))) (fun X' => X' = xs X 40 0 0 1) := by
  refine mu_of rfl rfl (ls := [some (.ref (α 40 0)), some (.int (J b)), some (.int (J a1))]) rfl (Nat.le_of_ble_eq_true rfl) ?_
  show Ev g M_X12_attempts 27 0 [some (.ref (α 40 0)), some (.int (J b)), some (.int (J a1))] [] h 0 0 (UQ g α ν (some (.int (J (0)))) (fun X' => X' = xs X 40 0 0 1))
  have q0 := rm_nC hM
  have q1 := wo_nC hO
  have q2 := rm_nS hM
  have q3 := wo_nS hO
  refine ev_ald0 1 dX12_attempts_0 rfl ?_
  refine ev_ald0 2 dX12_attempts_1 rfl ?_
  refine ev_ild1 3 dX12_attempts_2 rfl ?_
  refine tc_V1 6 14 dX12_attempts_3 lkv_X12_158 (tr40 hT) rfl rfl (by first | decide | omega) (Nat.le_of_ble_eq_true rfl) (isStudent_no hT hO hM hb hn) ?_
  refine tj_if_eq 21 9 dX12_attempts_6 (by decide) rfl (by first | exact TR.rng hT _ _ _ | exact R31_of _ | exact bi_R _ | (constructor <;> omega)) (fun c6 => ?_) (fun c6 => ?_)
  · skip
    refine tj_iconst 22 dX12_attempts_21 rfl ?_
    refine tm_V1 25 14 dX12_attempts_22 lkv_X12_144 (tr40 hT) rfl rfl (by first | decide | omega) (Nat.le_of_ble_eq_true rfl) (goes_n hT (by omega)) (fun h X1 hT hP22 => ?_)
    have hM1 := hM
    have hM : RM O X1 := by rw [hP22]; exact rm_th hM1 _
    have q0 := rm_nC hM
    have q2 := rm_nS hM
    refine tj_if_eq 41 28 dX12_attempts_25 (by decide) rfl (by first | exact TR.rng hT _ _ _ | exact R31_of _ | exact bi_R _ | (constructor <;> omega)) (fun c25 => ?_) (fun c25 => ?_)
    · skip
      refine tj_iconst 42 dX12_attempts_41 rfl ?_
      exact ev_ireturn (uq_i (by first | rfl | omega | exact bi_dt (by omega) | exact bi_df (by omega) | (skip)) hT (by assumption)) rfl dX12_attempts_42
    · exact False.elim (by omega)
  · exact False.elim (by omega)
set_option maxRecDepth 100000 in
set_option maxHeartbeats 4000000 in
theorem c_X12_attempts_b2 {g : Gt} {α : AL} {ν : Nat → Nat → Bool} {X : XM} {h : AH} (hT : TR g α ν X h) {O : XM} (hO : WO O) (hM : RM O X) {s : Nat} (hs : (s : Int) < nS O) {b : Int} (hb : R31 b) (hn : ¬ (0 ≤ b ∧ b < nC O)) : Mu g α ν M_X12_attempts 27 [.ref (α 40 0), .int (J (s : Int)), .int (J b)] h (some (.int (J (0)))) (fun X' => X' = xs X 40 0 0 1) := by
  refine mu_of rfl rfl (ls := [some (.ref (α 40 0)), some (.int (J (s : Int))), some (.int (J b))]) rfl (Nat.le_of_ble_eq_true rfl) ?_
  show Ev g M_X12_attempts 27 0 [some (.ref (α 40 0)), some (.int (J (s : Int))), some (.int (J b))] [] h 0 0 (UQ g α ν (some (.int (J (0)))) (fun X' => X' = xs X 40 0 0 1))
  have q0 := rm_nC hM
  have q1 := wo_nC hO
  have q2 := rm_nS hM
  have q3 := wo_nS hO
  refine ev_ald0 1 dX12_attempts_0 rfl ?_
  refine ev_ald0 2 dX12_attempts_1 rfl ?_
  refine ev_ild1 3 dX12_attempts_2 rfl ?_
  refine tc_V1 6 14 dX12_attempts_3 lkv_X12_158 (tr40 hT) rfl rfl (by first | decide | omega) (Nat.le_of_ble_eq_true rfl) (isStudent_ok hT hO hM (by omega)) ?_
  refine tj_if_eq 21 9 dX12_attempts_6 (by decide) rfl (by first | exact TR.rng hT _ _ _ | exact R31_of _ | exact bi_R _ | (constructor <;> omega)) (fun c6 => ?_) (fun c6 => ?_)
  · exact False.elim (by omega)
  · skip
    refine ev_ald0 10 dX12_attempts_9 rfl ?_
    refine ev_ild2 11 dX12_attempts_10 rfl ?_
    refine tc_V1 14 14 dX12_attempts_11 lkv_X12_151 (tr40 hT) rfl rfl (by first | decide | omega) (Nat.le_of_ble_eq_true rfl) (isCourse_no hT hO hM hb hn) ?_
    refine tj_if_eq 21 17 dX12_attempts_14 (by decide) rfl (by first | exact TR.rng hT _ _ _ | exact R31_of _ | exact bi_R _ | (constructor <;> omega)) (fun c14 => ?_) (fun c14 => ?_)
    · skip
      refine tj_iconst 22 dX12_attempts_21 rfl ?_
      refine tm_V1 25 14 dX12_attempts_22 lkv_X12_144 (tr40 hT) rfl rfl (by first | decide | omega) (Nat.le_of_ble_eq_true rfl) (goes_n hT (by omega)) (fun h X1 hT hP22 => ?_)
      have hM1 := hM
      have hM : RM O X1 := by rw [hP22]; exact rm_th hM1 _
      have q0 := rm_nC hM
      have q2 := rm_nS hM
      refine tj_if_eq 41 28 dX12_attempts_25 (by decide) rfl (by first | exact TR.rng hT _ _ _ | exact R31_of _ | exact bi_R _ | (constructor <;> omega)) (fun c25 => ?_) (fun c25 => ?_)
      · skip
        refine tj_iconst 42 dX12_attempts_41 rfl ?_
        exact ev_ireturn (uq_i (by first | rfl | omega | exact bi_dt (by omega) | exact bi_df (by omega) | (skip)) hT (by assumption)) rfl dX12_attempts_42
      · exact False.elim (by omega)
    · exact False.elim (by omega)
set_option maxRecDepth 100000 in
set_option maxHeartbeats 4000000 in
theorem c_X12_attempts_ok {g : Gt} {α : AL} {ν : Nat → Nat → Bool} {X : XM} {h : AH} (hT : TR g α ν X h) {O : XM} (hO : WO O) (hM : RM O X) {s : Nat} (hs : (s : Int) < nS O) {c : Nat} (hc : (c : Int) < nC O)  : Mu g α ν M_X12_attempts 27 [.ref (α 40 0), .int (J (s : Int)), .int (J (c : Int))] h (some (.int (J (O 9 s c)))) (fun X' => X' = xs X 40 0 0 0) := by
  refine mu_of rfl rfl (ls := [some (.ref (α 40 0)), some (.int (J (s : Int))), some (.int (J (c : Int)))]) rfl (Nat.le_of_ble_eq_true rfl) ?_
  show Ev g M_X12_attempts 27 0 [some (.ref (α 40 0)), some (.int (J (s : Int))), some (.int (J (c : Int)))] [] h 0 0 (UQ g α ν (some (.int (J (O 9 s c)))) (fun X' => X' = xs X 40 0 0 0))
  have q0 := rm_nC hM
  have q1 := wo_nC hO
  have q2 := rm_nS hM
  have q3 := wo_nS hO
  refine ev_ald0 1 dX12_attempts_0 rfl ?_
  refine ev_ald0 2 dX12_attempts_1 rfl ?_
  refine ev_ild1 3 dX12_attempts_2 rfl ?_
  refine tc_V1 6 14 dX12_attempts_3 lkv_X12_158 (tr40 hT) rfl rfl (by first | decide | omega) (Nat.le_of_ble_eq_true rfl) (isStudent_ok hT hO hM (by omega)) ?_
  refine tj_if_eq 21 9 dX12_attempts_6 (by decide) rfl (by first | exact TR.rng hT _ _ _ | exact R31_of _ | exact bi_R _ | (constructor <;> omega)) (fun c6 => ?_) (fun c6 => ?_)
  · exact False.elim (by omega)
  · skip
    refine ev_ald0 10 dX12_attempts_9 rfl ?_
    refine ev_ild2 11 dX12_attempts_10 rfl ?_
    refine tc_V1 14 14 dX12_attempts_11 lkv_X12_151 (tr40 hT) rfl rfl (by first | decide | omega) (Nat.le_of_ble_eq_true rfl) (isCourse_ok hT hO hM (by omega)) ?_
    refine tj_if_eq 21 17 dX12_attempts_14 (by decide) rfl (by first | exact TR.rng hT _ _ _ | exact R31_of _ | exact bi_R _ | (constructor <;> omega)) (fun c14 => ?_) (fun c14 => ?_)
    · exact False.elim (by omega)
    · skip
      refine tj_iconst 18 dX12_attempts_17 rfl ?_
      refine ev_goto 22 dX12_attempts_18 (by decide) ?_
      refine tm_V1 25 14 dX12_attempts_22 lkv_X12_144 (tr40 hT) rfl rfl (by first | decide | omega) (Nat.le_of_ble_eq_true rfl) (goes_0 hT) (fun h X1 hT hP22 => ?_)
      have hM1 := hM
      have hM : RM O X1 := by rw [hP22]; exact rm_th hM1 _
      have q0 := rm_nC hM
      have q2 := rm_nS hM
      refine tj_if_eq 41 28 dX12_attempts_25 (by decide) rfl (by first | exact TR.rng hT _ _ _ | exact R31_of _ | exact bi_R _ | (constructor <;> omega)) (fun c25 => ?_) (fun c25 => ?_)
      · exact False.elim (by omega)
      · skip
        refine ev_ald0 29 dX12_attempts_28 rfl ?_
        refine ev_getfield 32 14 15 fl_X12_40_14 (tr40 hT) rfl dX12_attempts_29 rfl ?_
        refine ev_ild1 33 dX12_attempts_32 rfl ?_
        refine ev_ild2 34 dX12_attempts_33 rfl ?_
        refine tc_S2 37 dX12_attempts_34 lks_X12_110 rfl (by first | decide | omega) (Nat.le_of_ble_eq_true rfl) c_X12_at ?_
        refine tv_iald 38 (tr55 hT) ((20 * s + c)) (by omega) (by omega) (by omega) dX12_attempts_37 rfl ?_
        refine ev_goto 42 dX12_attempts_38 (by decide) ?_
        exact ev_ireturn (uq_i (by first | rfl | omega | exact bi_dt (by omega) | exact bi_df (by omega) | (first | exact rm_tri hM s c hs (by omega) | skip)) hT (by assumption)) rfl dX12_attempts_42
set_option maxRecDepth 100000 in
set_option maxHeartbeats 4000000 in
theorem c_X12_earnedCredits_b1 {g : Gt} {α : AL} {ν : Nat → Nat → Bool} {X : XM} {h : AH} (hT : TR g α ν X h) {O : XM} (hO : WO O) (hM : RM O X) {b : Int} (hb : R31 b) (hn : ¬ (0 ≤ b ∧ b < nS O)) : Mu g α ν M_X12_earnedCredits 27 [.ref (α 40 0), .int (J b)] h (some (.int (J (0)))) (fun X' => X' = xs X 40 0 0 1) := by
  refine mu_of rfl rfl (ls := [some (.ref (α 40 0)), some (.int (J b))]) rfl (Nat.le_of_ble_eq_true rfl) ?_
  show Ev g M_X12_earnedCredits 27 0 [some (.ref (α 40 0)), some (.int (J b))] [] h 0 0 (UQ g α ν (some (.int (J (0)))) (fun X' => X' = xs X 40 0 0 1))
  have q0 := rm_nC hM
  have q1 := wo_nC hO
  have q2 := rm_nS hM
  have q3 := wo_nS hO
  refine ev_ald0 1 dX12_earnedCredits_0 rfl ?_
  refine ev_ald0 2 dX12_earnedCredits_1 rfl ?_
  refine ev_ild1 3 dX12_earnedCredits_2 rfl ?_
  refine tc_V1 6 14 dX12_earnedCredits_3 lkv_X12_158 (tr40 hT) rfl rfl (by first | decide | omega) (Nat.le_of_ble_eq_true rfl) (isStudent_no hT hO hM hb hn) ?_
  refine tj_if_eq 13 9 dX12_earnedCredits_6 (by decide) rfl (by first | exact TR.rng hT _ _ _ | exact R31_of _ | exact bi_R _ | (constructor <;> omega)) (fun c6 => ?_) (fun c6 => ?_)
  · skip
    refine tj_iconst 14 dX12_earnedCredits_13 rfl ?_
    refine tm_V1 17 14 dX12_earnedCredits_14 lkv_X12_144 (tr40 hT) rfl rfl (by first | decide | omega) (Nat.le_of_ble_eq_true rfl) (goes_n hT (by omega)) (fun h X1 hT hP14 => ?_)
    have hM1 := hM
    have hM : RM O X1 := by rw [hP14]; exact rm_th hM1 _
    have q0 := rm_nC hM
    have q2 := rm_nS hM
    refine tj_if_eq 28 20 dX12_earnedCredits_17 (by decide) rfl (by first | exact TR.rng hT _ _ _ | exact R31_of _ | exact bi_R _ | (constructor <;> omega)) (fun c17 => ?_) (fun c17 => ?_)
    · skip
      refine tj_iconst 29 dX12_earnedCredits_28 rfl ?_
      exact ev_ireturn (uq_i (by first | rfl | omega | exact bi_dt (by omega) | exact bi_df (by omega) | (skip)) hT (by assumption)) rfl dX12_earnedCredits_29
    · exact False.elim (by omega)
  · exact False.elim (by omega)
set_option maxRecDepth 100000 in
set_option maxHeartbeats 4000000 in
theorem c_X12_earnedCredits_ok {g : Gt} {α : AL} {ν : Nat → Nat → Bool} {X : XM} {h : AH} (hT : TR g α ν X h) {O : XM} (hO : WO O) (hM : RM O X) {s : Nat} (hs : (s : Int) < nS O)  : Mu g α ν M_X12_earnedCredits 27 [.ref (α 40 0), .int (J (s : Int))] h (some (.int (J (ernd O s)))) (fun X' => X' = xs X 40 0 0 0) := by
  refine mu_of rfl rfl (ls := [some (.ref (α 40 0)), some (.int (J (s : Int)))]) rfl (Nat.le_of_ble_eq_true rfl) ?_
  show Ev g M_X12_earnedCredits 27 0 [some (.ref (α 40 0)), some (.int (J (s : Int)))] [] h 0 0 (UQ g α ν (some (.int (J (ernd O s)))) (fun X' => X' = xs X 40 0 0 0))
  have q0 := rm_nC hM
  have q1 := wo_nC hO
  have q2 := rm_nS hM
  have q3 := wo_nS hO
  refine ev_ald0 1 dX12_earnedCredits_0 rfl ?_
  refine ev_ald0 2 dX12_earnedCredits_1 rfl ?_
  refine ev_ild1 3 dX12_earnedCredits_2 rfl ?_
  refine tc_V1 6 14 dX12_earnedCredits_3 lkv_X12_158 (tr40 hT) rfl rfl (by first | decide | omega) (Nat.le_of_ble_eq_true rfl) (isStudent_ok hT hO hM (by omega)) ?_
  refine tj_if_eq 13 9 dX12_earnedCredits_6 (by decide) rfl (by first | exact TR.rng hT _ _ _ | exact R31_of _ | exact bi_R _ | (constructor <;> omega)) (fun c6 => ?_) (fun c6 => ?_)
  · exact False.elim (by omega)
  · skip
    refine tj_iconst 10 dX12_earnedCredits_9 rfl ?_
    refine ev_goto 14 dX12_earnedCredits_10 (by decide) ?_
    refine tm_V1 17 14 dX12_earnedCredits_14 lkv_X12_144 (tr40 hT) rfl rfl (by first | decide | omega) (Nat.le_of_ble_eq_true rfl) (goes_0 hT) (fun h X1 hT hP14 => ?_)
    have hM1 := hM
    have hM : RM O X1 := by rw [hP14]; exact rm_th hM1 _
    have q0 := rm_nC hM
    have q2 := rm_nS hM
    refine tj_if_eq 28 20 dX12_earnedCredits_17 (by decide) rfl (by first | exact TR.rng hT _ _ _ | exact R31_of _ | exact bi_R _ | (constructor <;> omega)) (fun c17 => ?_) (fun c17 => ?_)
    · exact False.elim (by omega)
    · skip
      refine ev_ald0 21 dX12_earnedCredits_20 rfl ?_
      refine ev_ild1 22 dX12_earnedCredits_21 rfl ?_
      refine tc_V1 25 14 dX12_earnedCredits_22 lkv_X12_127 (tr40 hT) rfl rfl (by first | decide | omega) (Nat.le_of_ble_eq_true rfl) (c_X12_earnedOf hT hO hM (by omega)) ?_
      refine ev_goto 29 dX12_earnedCredits_25 (by decide) ?_
      exact ev_ireturn (uq_i (by first | rfl | omega | exact bi_dt (by omega) | exact bi_df (by omega) | (skip)) hT (by assumption)) rfl dX12_earnedCredits_29
set_option maxRecDepth 100000 in
set_option maxHeartbeats 4000000 in
theorem c_X12_load_b1 {g : Gt} {α : AL} {ν : Nat → Nat → Bool} {X : XM} {h : AH} (hT : TR g α ν X h) {O : XM} (hO : WO O) (hM : RM O X) {b : Int} (hb : R31 b) (hn : ¬ (0 ≤ b ∧ b < nS O)) : Mu g α ν M_X12_load 27 [.ref (α 40 0), .int (J b)] h (some (.int (J (0)))) (fun X' => X' = xs X 40 0 0 1) := by
  refine mu_of rfl rfl (ls := [some (.ref (α 40 0)), some (.int (J b))]) rfl (Nat.le_of_ble_eq_true rfl) ?_
  show Ev g M_X12_load 27 0 [some (.ref (α 40 0)), some (.int (J b))] [] h 0 0 (UQ g α ν (some (.int (J (0)))) (fun X' => X' = xs X 40 0 0 1))
  have q0 := rm_nC hM
  have q1 := wo_nC hO
  have q2 := rm_nS hM
  have q3 := wo_nS hO
  refine ev_ald0 1 dX12_load_0 rfl ?_
  refine ev_ald0 2 dX12_load_1 rfl ?_
  refine ev_ild1 3 dX12_load_2 rfl ?_
  refine tc_V1 6 14 dX12_load_3 lkv_X12_158 (tr40 hT) rfl rfl (by first | decide | omega) (Nat.le_of_ble_eq_true rfl) (isStudent_no hT hO hM hb hn) ?_
  refine tj_if_eq 13 9 dX12_load_6 (by decide) rfl (by first | exact TR.rng hT _ _ _ | exact R31_of _ | exact bi_R _ | (constructor <;> omega)) (fun c6 => ?_) (fun c6 => ?_)
  · skip
    refine tj_iconst 14 dX12_load_13 rfl ?_
    refine tm_V1 17 14 dX12_load_14 lkv_X12_144 (tr40 hT) rfl rfl (by first | decide | omega) (Nat.le_of_ble_eq_true rfl) (goes_n hT (by omega)) (fun h X1 hT hP14 => ?_)
    have hM1 := hM
    have hM : RM O X1 := by rw [hP14]; exact rm_th hM1 _
    have q0 := rm_nC hM
    have q2 := rm_nS hM
    refine tj_if_eq 33 20 dX12_load_17 (by decide) rfl (by first | exact TR.rng hT _ _ _ | exact R31_of _ | exact bi_R _ | (constructor <;> omega)) (fun c17 => ?_) (fun c17 => ?_)
    · skip
      refine tj_iconst 34 dX12_load_33 rfl ?_
      exact ev_ireturn (uq_i (by first | rfl | omega | exact bi_dt (by omega) | exact bi_df (by omega) | (skip)) hT (by assumption)) rfl dX12_load_34
    · exact False.elim (by omega)
  · exact False.elim (by omega)
set_option maxRecDepth 100000 in
set_option maxHeartbeats 4000000 in
theorem c_X12_load_ok {g : Gt} {α : AL} {ν : Nat → Nat → Bool} {X : XM} {h : AH} (hT : TR g α ν X h) {O : XM} (hO : WO O) (hM : RM O X) {s : Nat} (hs : (s : Int) < nS O)  : Mu g α ν M_X12_load 27 [.ref (α 40 0), .int (J (s : Int))] h (some (.int (J (load O s)))) (fun X' => X' = xs X 40 0 0 0) := by
  refine mu_of rfl rfl (ls := [some (.ref (α 40 0)), some (.int (J (s : Int)))]) rfl (Nat.le_of_ble_eq_true rfl) ?_
  show Ev g M_X12_load 27 0 [some (.ref (α 40 0)), some (.int (J (s : Int)))] [] h 0 0 (UQ g α ν (some (.int (J (load O s)))) (fun X' => X' = xs X 40 0 0 0))
  have q0 := rm_nC hM
  have q1 := wo_nC hO
  have q2 := rm_nS hM
  have q3 := wo_nS hO
  refine ev_ald0 1 dX12_load_0 rfl ?_
  refine ev_ald0 2 dX12_load_1 rfl ?_
  refine ev_ild1 3 dX12_load_2 rfl ?_
  refine tc_V1 6 14 dX12_load_3 lkv_X12_158 (tr40 hT) rfl rfl (by first | decide | omega) (Nat.le_of_ble_eq_true rfl) (isStudent_ok hT hO hM (by omega)) ?_
  refine tj_if_eq 13 9 dX12_load_6 (by decide) rfl (by first | exact TR.rng hT _ _ _ | exact R31_of _ | exact bi_R _ | (constructor <;> omega)) (fun c6 => ?_) (fun c6 => ?_)
  · exact False.elim (by omega)
  · skip
    refine tj_iconst 10 dX12_load_9 rfl ?_
    refine ev_goto 14 dX12_load_10 (by decide) ?_
    refine tm_V1 17 14 dX12_load_14 lkv_X12_144 (tr40 hT) rfl rfl (by first | decide | omega) (Nat.le_of_ble_eq_true rfl) (goes_0 hT) (fun h X1 hT hP14 => ?_)
    have hM1 := hM
    have hM : RM O X1 := by rw [hP14]; exact rm_th hM1 _
    have q0 := rm_nC hM
    have q2 := rm_nS hM
    refine tj_if_eq 33 20 dX12_load_17 (by decide) rfl (by first | exact TR.rng hT _ _ _ | exact R31_of _ | exact bi_R _ | (constructor <;> omega)) (fun c17 => ?_) (fun c17 => ?_)
    · exact False.elim (by omega)
    · skip
      refine ev_ald0 21 dX12_load_20 rfl ?_
      refine ev_ald0 22 dX12_load_21 rfl ?_
      refine ev_getfield 25 14 12 fl_X12_31_14 (tr40 hT) rfl dX12_load_22 rfl ?_
      refine ev_ild1 26 dX12_load_25 rfl ?_
      refine tv_iald 27 (tr52 hT) (s) (by omega) (by omega) (by omega) dX12_load_26 rfl ?_
      refine tc_V1 30 14 dX12_load_27 lkv_X12_123 (tr40 hT) rfl rfl (by first | decide | omega) (Nat.le_of_ble_eq_true rfl) (c_X12_creditsOf hT hO hM (rm_tak hM s hs)) ?_
      refine ev_goto 34 dX12_load_30 (by decide) ?_
      exact ev_ireturn (uq_i (by first | rfl | omega | exact bi_dt (by omega) | exact bi_df (by omega) | (skip)) hT (by assumption)) rfl dX12_load_34
set_option maxRecDepth 100000 in
set_option maxHeartbeats 4000000 in
theorem c_X12_isEnrolled_b1 {g : Gt} {α : AL} {ν : Nat → Nat → Bool} {X : XM} {h : AH} (hT : TR g α ν X h) {O : XM} (hO : WO O) (hM : RM O X) {b : Int} (hb : R31 b) (hn : ¬ (0 ≤ b ∧ b < nS O)) {a1 : Int} (ha1 : R31 a1) : Mu g α ν M_X12_isEnrolled 27 [.ref (α 40 0), .int (J b), .int (J a1)] h (some (.int (J (bi false)))) (fun X' => X' = xs X 40 0 0 1) := by
  refine mu_of rfl rfl (ls := [some (.ref (α 40 0)), some (.int (J b)), some (.int (J a1))]) rfl (Nat.le_of_ble_eq_true rfl) ?_
  show Ev g M_X12_isEnrolled 27 0 [some (.ref (α 40 0)), some (.int (J b)), some (.int (J a1))] [] h 0 0 (UQ g α ν (some (.int (J (bi false)))) (fun X' => X' = xs X 40 0 0 1))
  have q0 := rm_nC hM
  have q1 := wo_nC hO
  have q2 := rm_nS hM
  have q3 := wo_nS hO
  refine ev_ald0 1 dX12_isEnrolled_0 rfl ?_
  refine ev_ald0 2 dX12_isEnrolled_1 rfl ?_
  refine ev_ild1 3 dX12_isEnrolled_2 rfl ?_
  refine tc_V1 6 14 dX12_isEnrolled_3 lkv_X12_158 (tr40 hT) rfl rfl (by first | decide | omega) (Nat.le_of_ble_eq_true rfl) (isStudent_no hT hO hM hb hn) ?_
  refine tj_if_eq 21 9 dX12_isEnrolled_6 (by decide) rfl (by first | exact TR.rng hT _ _ _ | exact R31_of _ | exact bi_R _ | (constructor <;> omega)) (fun c6 => ?_) (fun c6 => ?_)
  · skip
    refine tj_iconst 22 dX12_isEnrolled_21 rfl ?_
    refine tm_V1 25 14 dX12_isEnrolled_22 lkv_X12_144 (tr40 hT) rfl rfl (by first | decide | omega) (Nat.le_of_ble_eq_true rfl) (goes_n hT (by omega)) (fun h X1 hT hP22 => ?_)
    have hM1 := hM
    have hM : RM O X1 := by rw [hP22]; exact rm_th hM1 _
    have q0 := rm_nC hM
    have q2 := rm_nS hM
    refine tj_if_eq 45 28 dX12_isEnrolled_25 (by decide) rfl (by first | exact TR.rng hT _ _ _ | exact R31_of _ | exact bi_R _ | (constructor <;> omega)) (fun c25 => ?_) (fun c25 => ?_)
    · skip
      refine tj_iconst 46 dX12_isEnrolled_45 rfl ?_
      exact tz_retU (by first | rfl | omega | exact bi_dt (by omega) | exact bi_df (by omega) | (skip)) hT (by assumption) rfl dX12_isEnrolled_46
    · exact False.elim (by omega)
  · exact False.elim (by omega)
set_option maxRecDepth 100000 in
set_option maxHeartbeats 4000000 in
theorem c_X12_isEnrolled_b2 {g : Gt} {α : AL} {ν : Nat → Nat → Bool} {X : XM} {h : AH} (hT : TR g α ν X h) {O : XM} (hO : WO O) (hM : RM O X) {s : Nat} (hs : (s : Int) < nS O) {b : Int} (hb : R31 b) (hn : ¬ (0 ≤ b ∧ b < nC O)) : Mu g α ν M_X12_isEnrolled 27 [.ref (α 40 0), .int (J (s : Int)), .int (J b)] h (some (.int (J (bi false)))) (fun X' => X' = xs X 40 0 0 1) := by
  refine mu_of rfl rfl (ls := [some (.ref (α 40 0)), some (.int (J (s : Int))), some (.int (J b))]) rfl (Nat.le_of_ble_eq_true rfl) ?_
  show Ev g M_X12_isEnrolled 27 0 [some (.ref (α 40 0)), some (.int (J (s : Int))), some (.int (J b))] [] h 0 0 (UQ g α ν (some (.int (J (bi false)))) (fun X' => X' = xs X 40 0 0 1))
  have q0 := rm_nC hM
  have q1 := wo_nC hO
  have q2 := rm_nS hM
  have q3 := wo_nS hO
  refine ev_ald0 1 dX12_isEnrolled_0 rfl ?_
  refine ev_ald0 2 dX12_isEnrolled_1 rfl ?_
  refine ev_ild1 3 dX12_isEnrolled_2 rfl ?_
  refine tc_V1 6 14 dX12_isEnrolled_3 lkv_X12_158 (tr40 hT) rfl rfl (by first | decide | omega) (Nat.le_of_ble_eq_true rfl) (isStudent_ok hT hO hM (by omega)) ?_
  refine tj_if_eq 21 9 dX12_isEnrolled_6 (by decide) rfl (by first | exact TR.rng hT _ _ _ | exact R31_of _ | exact bi_R _ | (constructor <;> omega)) (fun c6 => ?_) (fun c6 => ?_)
  · exact False.elim (by omega)
  · skip
    refine ev_ald0 10 dX12_isEnrolled_9 rfl ?_
    refine ev_ild2 11 dX12_isEnrolled_10 rfl ?_
    refine tc_V1 14 14 dX12_isEnrolled_11 lkv_X12_151 (tr40 hT) rfl rfl (by first | decide | omega) (Nat.le_of_ble_eq_true rfl) (isCourse_no hT hO hM hb hn) ?_
    refine tj_if_eq 21 17 dX12_isEnrolled_14 (by decide) rfl (by first | exact TR.rng hT _ _ _ | exact R31_of _ | exact bi_R _ | (constructor <;> omega)) (fun c14 => ?_) (fun c14 => ?_)
    · skip
      refine tj_iconst 22 dX12_isEnrolled_21 rfl ?_
      refine tm_V1 25 14 dX12_isEnrolled_22 lkv_X12_144 (tr40 hT) rfl rfl (by first | decide | omega) (Nat.le_of_ble_eq_true rfl) (goes_n hT (by omega)) (fun h X1 hT hP22 => ?_)
      have hM1 := hM
      have hM : RM O X1 := by rw [hP22]; exact rm_th hM1 _
      have q0 := rm_nC hM
      have q2 := rm_nS hM
      refine tj_if_eq 45 28 dX12_isEnrolled_25 (by decide) rfl (by first | exact TR.rng hT _ _ _ | exact R31_of _ | exact bi_R _ | (constructor <;> omega)) (fun c25 => ?_) (fun c25 => ?_)
      · skip
        refine tj_iconst 46 dX12_isEnrolled_45 rfl ?_
        exact tz_retU (by first | rfl | omega | exact bi_dt (by omega) | exact bi_df (by omega) | (skip)) hT (by assumption) rfl dX12_isEnrolled_46
      · exact False.elim (by omega)
    · exact False.elim (by omega)
set_option maxRecDepth 100000 in
set_option maxHeartbeats 4000000 in
theorem c_X12_isEnrolled_ok {g : Gt} {α : AL} {ν : Nat → Nat → Bool} {X : XM} {h : AH} (hT : TR g α ν X h) {O : XM} (hO : WO O) (hM : RM O X) {s : Nat} (hs : (s : Int) < nS O) {c : Nat} (hc : (c : Int) < nC O)  : Mu g α ν M_X12_isEnrolled 27 [.ref (α 40 0), .int (J (s : Int)), .int (J (c : Int))] h (some (.int (J (bi (tak O s c))))) (fun X' => X' = xs X 40 0 0 0) := by
  refine mu_of rfl rfl (ls := [some (.ref (α 40 0)), some (.int (J (s : Int))), some (.int (J (c : Int)))]) rfl (Nat.le_of_ble_eq_true rfl) ?_
  show Ev g M_X12_isEnrolled 27 0 [some (.ref (α 40 0)), some (.int (J (s : Int))), some (.int (J (c : Int)))] [] h 0 0 (UQ g α ν (some (.int (J (bi (tak O s c))))) (fun X' => X' = xs X 40 0 0 0))
  have q0 := rm_nC hM
  have q1 := wo_nC hO
  have q2 := rm_nS hM
  have q3 := wo_nS hO
  refine ev_ald0 1 dX12_isEnrolled_0 rfl ?_
  refine ev_ald0 2 dX12_isEnrolled_1 rfl ?_
  refine ev_ild1 3 dX12_isEnrolled_2 rfl ?_
  refine tc_V1 6 14 dX12_isEnrolled_3 lkv_X12_158 (tr40 hT) rfl rfl (by first | decide | omega) (Nat.le_of_ble_eq_true rfl) (isStudent_ok hT hO hM (by omega)) ?_
  refine tj_if_eq 21 9 dX12_isEnrolled_6 (by decide) rfl (by first | exact TR.rng hT _ _ _ | exact R31_of _ | exact bi_R _ | (constructor <;> omega)) (fun c6 => ?_) (fun c6 => ?_)
  · exact False.elim (by omega)
  · skip
    refine ev_ald0 10 dX12_isEnrolled_9 rfl ?_
    refine ev_ild2 11 dX12_isEnrolled_10 rfl ?_
    refine tc_V1 14 14 dX12_isEnrolled_11 lkv_X12_151 (tr40 hT) rfl rfl (by first | decide | omega) (Nat.le_of_ble_eq_true rfl) (isCourse_ok hT hO hM (by omega)) ?_
    refine tj_if_eq 21 17 dX12_isEnrolled_14 (by decide) rfl (by first | exact TR.rng hT _ _ _ | exact R31_of _ | exact bi_R _ | (constructor <;> omega)) (fun c14 => ?_) (fun c14 => ?_)
    · exact False.elim (by omega)
    · skip
      refine tj_iconst 18 dX12_isEnrolled_17 rfl ?_
      refine ev_goto 22 dX12_isEnrolled_18 (by decide) ?_
      refine tm_V1 25 14 dX12_isEnrolled_22 lkv_X12_144 (tr40 hT) rfl rfl (by first | decide | omega) (Nat.le_of_ble_eq_true rfl) (goes_0 hT) (fun h X1 hT hP22 => ?_)
      have hM1 := hM
      have hM : RM O X1 := by rw [hP22]; exact rm_th hM1 _
      have q0 := rm_nC hM
      have q2 := rm_nS hM
      refine tj_if_eq 45 28 dX12_isEnrolled_25 (by decide) rfl (by first | exact TR.rng hT _ _ _ | exact R31_of _ | exact bi_R _ | (constructor <;> omega)) (fun c25 => ?_) (fun c25 => ?_)
      · exact False.elim (by omega)
      · skip
        refine ev_ald0 29 dX12_isEnrolled_28 rfl ?_
        refine ev_getfield 32 14 12 fl_X12_31_14 (tr40 hT) rfl dX12_isEnrolled_29 rfl ?_
        refine ev_ild1 33 dX12_isEnrolled_32 rfl ?_
        refine tv_iald 34 (tr52 hT) (s) (by omega) (by omega) (by omega) dX12_isEnrolled_33 rfl ?_
        refine ev_ild2 35 dX12_isEnrolled_34 rfl ?_
        refine tc_S2 38 dX12_isEnrolled_35 lks_X12_106 rfl (by first | decide | omega) (Nat.le_of_ble_eq_true rfl) (has_of (rm_tak hM _ (by omega)) (by omega) rfl : Pr g M_X12_has 0 _ h (some (.int (J (bi (tak O _ _)))))) ?_
        refine tb_if_eq 45 41 dX12_isEnrolled_38 (by decide) rfl (fun c38 => ?_) (fun c38 => ?_)
        · skip
          refine tj_iconst 46 dX12_isEnrolled_45 rfl ?_
          exact tz_retU (by first | rfl | omega | exact bi_dt (by omega) | exact bi_df (by omega) | (rw [c38]; rfl)) hT (by assumption) rfl dX12_isEnrolled_46
        · skip
          refine tj_iconst 42 dX12_isEnrolled_41 rfl ?_
          refine ev_goto 46 dX12_isEnrolled_42 (by decide) ?_
          exact tz_retU (by first | rfl | omega | exact bi_dt (by omega) | exact bi_df (by omega) | (rw [c38]; rfl)) hT (by assumption) rfl dX12_isEnrolled_46
set_option maxRecDepth 100000 in
set_option maxHeartbeats 4000000 in
theorem c_X12_enrolled_b1 {g : Gt} {α : AL} {ν : Nat → Nat → Bool} {X : XM} {h : AH} (hT : TR g α ν X h) {O : XM} (hO : WO O) (hM : RM O X) {b : Int} (hb : R31 b) (hn : ¬ (0 ≤ b ∧ b < nC O)) : Mu g α ν M_X12_enrolled 27 [.ref (α 40 0), .int (J b)] h (some (.int (J (0)))) (fun X' => X' = xs X 40 0 0 1) := by
  refine mu_of rfl rfl (ls := [some (.ref (α 40 0)), some (.int (J b))]) rfl (Nat.le_of_ble_eq_true rfl) ?_
  show Ev g M_X12_enrolled 27 0 [some (.ref (α 40 0)), some (.int (J b))] [] h 0 0 (UQ g α ν (some (.int (J (0)))) (fun X' => X' = xs X 40 0 0 1))
  have q0 := rm_nC hM
  have q1 := wo_nC hO
  have q2 := rm_nS hM
  have q3 := wo_nS hO
  refine ev_ald0 1 dX12_enrolled_0 rfl ?_
  refine ev_ald0 2 dX12_enrolled_1 rfl ?_
  refine ev_ild1 3 dX12_enrolled_2 rfl ?_
  refine tc_V1 6 14 dX12_enrolled_3 lkv_X12_151 (tr40 hT) rfl rfl (by first | decide | omega) (Nat.le_of_ble_eq_true rfl) (isCourse_no hT hO hM hb hn) ?_
  refine tj_if_eq 13 9 dX12_enrolled_6 (by decide) rfl (by first | exact TR.rng hT _ _ _ | exact R31_of _ | exact bi_R _ | (constructor <;> omega)) (fun c6 => ?_) (fun c6 => ?_)
  · skip
    refine tj_iconst 14 dX12_enrolled_13 rfl ?_
    refine tm_V1 17 14 dX12_enrolled_14 lkv_X12_144 (tr40 hT) rfl rfl (by first | decide | omega) (Nat.le_of_ble_eq_true rfl) (goes_n hT (by omega)) (fun h X1 hT hP14 => ?_)
    have hM1 := hM
    have hM : RM O X1 := by rw [hP14]; exact rm_th hM1 _
    have q0 := rm_nC hM
    have q2 := rm_nS hM
    refine tj_if_eq 28 20 dX12_enrolled_17 (by decide) rfl (by first | exact TR.rng hT _ _ _ | exact R31_of _ | exact bi_R _ | (constructor <;> omega)) (fun c17 => ?_) (fun c17 => ?_)
    · skip
      refine tj_iconst 29 dX12_enrolled_28 rfl ?_
      exact ev_ireturn (uq_i (by first | rfl | omega | exact bi_dt (by omega) | exact bi_df (by omega) | (skip)) hT (by assumption)) rfl dX12_enrolled_29
    · exact False.elim (by omega)
  · exact False.elim (by omega)
set_option maxRecDepth 100000 in
set_option maxHeartbeats 4000000 in
theorem c_X12_enrolled_ok {g : Gt} {α : AL} {ν : Nat → Nat → Bool} {X : XM} {h : AH} (hT : TR g α ν X h) {O : XM} (hO : WO O) (hM : RM O X) {c : Nat} (hc : (c : Int) < nC O)  : Mu g α ν M_X12_enrolled 27 [.ref (α 40 0), .int (J (c : Int))] h (some (.int (J (enr O c)))) (fun X' => X' = xs X 40 0 0 0) := by
  refine mu_of rfl rfl (ls := [some (.ref (α 40 0)), some (.int (J (c : Int)))]) rfl (Nat.le_of_ble_eq_true rfl) ?_
  show Ev g M_X12_enrolled 27 0 [some (.ref (α 40 0)), some (.int (J (c : Int)))] [] h 0 0 (UQ g α ν (some (.int (J (enr O c)))) (fun X' => X' = xs X 40 0 0 0))
  have q0 := rm_nC hM
  have q1 := wo_nC hO
  have q2 := rm_nS hM
  have q3 := wo_nS hO
  refine ev_ald0 1 dX12_enrolled_0 rfl ?_
  refine ev_ald0 2 dX12_enrolled_1 rfl ?_
  refine ev_ild1 3 dX12_enrolled_2 rfl ?_
  refine tc_V1 6 14 dX12_enrolled_3 lkv_X12_151 (tr40 hT) rfl rfl (by first | decide | omega) (Nat.le_of_ble_eq_true rfl) (isCourse_ok hT hO hM (by omega)) ?_
  refine tj_if_eq 13 9 dX12_enrolled_6 (by decide) rfl (by first | exact TR.rng hT _ _ _ | exact R31_of _ | exact bi_R _ | (constructor <;> omega)) (fun c6 => ?_) (fun c6 => ?_)
  · exact False.elim (by omega)
  · skip
    refine tj_iconst 10 dX12_enrolled_9 rfl ?_
    refine ev_goto 14 dX12_enrolled_10 (by decide) ?_
    refine tm_V1 17 14 dX12_enrolled_14 lkv_X12_144 (tr40 hT) rfl rfl (by first | decide | omega) (Nat.le_of_ble_eq_true rfl) (goes_0 hT) (fun h X1 hT hP14 => ?_)
    have hM1 := hM
    have hM : RM O X1 := by rw [hP14]; exact rm_th hM1 _
    have q0 := rm_nC hM
    have q2 := rm_nS hM
    refine tj_if_eq 28 20 dX12_enrolled_17 (by decide) rfl (by first | exact TR.rng hT _ _ _ | exact R31_of _ | exact bi_R _ | (constructor <;> omega)) (fun c17 => ?_) (fun c17 => ?_)
    · exact False.elim (by omega)
    · skip
      refine ev_ald0 21 dX12_enrolled_20 rfl ?_
      refine ev_ild1 22 dX12_enrolled_21 rfl ?_
      refine tc_V1 25 14 dX12_enrolled_22 lkv_X12_161 (tr40 hT) rfl rfl (by first | decide | omega) (Nat.le_of_ble_eq_true rfl) (c_X12_enrolledIn hT hO hM (by omega)) ?_
      refine ev_goto 29 dX12_enrolled_25 (by decide) ?_
      exact ev_ireturn (uq_i (by first | rfl | omega | exact bi_dt (by omega) | exact bi_df (by omega) | (skip)) hT (by assumption)) rfl dX12_enrolled_29
set_option maxRecDepth 100000 in
set_option maxHeartbeats 4000000 in
theorem c_X12_waiting_b1 {g : Gt} {α : AL} {ν : Nat → Nat → Bool} {X : XM} {h : AH} (hT : TR g α ν X h) {O : XM} (hO : WO O) (hM : RM O X) {b : Int} (hb : R31 b) (hn : ¬ (0 ≤ b ∧ b < nC O)) : Mu g α ν M_X12_waiting 27 [.ref (α 40 0), .int (J b)] h (some (.int (J (0)))) (fun X' => X' = xs X 40 0 0 1) := by
  refine mu_of rfl rfl (ls := [some (.ref (α 40 0)), some (.int (J b))]) rfl (Nat.le_of_ble_eq_true rfl) ?_
  show Ev g M_X12_waiting 27 0 [some (.ref (α 40 0)), some (.int (J b))] [] h 0 0 (UQ g α ν (some (.int (J (0)))) (fun X' => X' = xs X 40 0 0 1))
  have q0 := rm_nC hM
  have q1 := wo_nC hO
  have q2 := rm_nS hM
  have q3 := wo_nS hO
  refine ev_ald0 1 dX12_waiting_0 rfl ?_
  refine ev_ald0 2 dX12_waiting_1 rfl ?_
  refine ev_ild1 3 dX12_waiting_2 rfl ?_
  refine tc_V1 6 14 dX12_waiting_3 lkv_X12_151 (tr40 hT) rfl rfl (by first | decide | omega) (Nat.le_of_ble_eq_true rfl) (isCourse_no hT hO hM hb hn) ?_
  refine tj_if_eq 13 9 dX12_waiting_6 (by decide) rfl (by first | exact TR.rng hT _ _ _ | exact R31_of _ | exact bi_R _ | (constructor <;> omega)) (fun c6 => ?_) (fun c6 => ?_)
  · skip
    refine tj_iconst 14 dX12_waiting_13 rfl ?_
    refine tm_V1 17 14 dX12_waiting_14 lkv_X12_144 (tr40 hT) rfl rfl (by first | decide | omega) (Nat.le_of_ble_eq_true rfl) (goes_n hT (by omega)) (fun h X1 hT hP14 => ?_)
    have hM1 := hM
    have hM : RM O X1 := by rw [hP14]; exact rm_th hM1 _
    have q0 := rm_nC hM
    have q2 := rm_nS hM
    refine tj_if_eq 29 20 dX12_waiting_17 (by decide) rfl (by first | exact TR.rng hT _ _ _ | exact R31_of _ | exact bi_R _ | (constructor <;> omega)) (fun c17 => ?_) (fun c17 => ?_)
    · skip
      refine tj_iconst 30 dX12_waiting_29 rfl ?_
      exact ev_ireturn (uq_i (by first | rfl | omega | exact bi_dt (by omega) | exact bi_df (by omega) | (skip)) hT (by assumption)) rfl dX12_waiting_30
    · exact False.elim (by omega)
  · exact False.elim (by omega)
set_option maxRecDepth 100000 in
set_option maxHeartbeats 4000000 in
theorem c_X12_waiting_ok {g : Gt} {α : AL} {ν : Nat → Nat → Bool} {X : XM} {h : AH} (hT : TR g α ν X h) {O : XM} (hO : WO O) (hM : RM O X) {c : Nat} (hc : (c : Int) < nC O)  : Mu g α ν M_X12_waiting 27 [.ref (α 40 0), .int (J (c : Int))] h (some (.int (J (O 1 (4 + c) 2)))) (fun X' => X' = xs X 40 0 0 0) := by
  refine mu_of rfl rfl (ls := [some (.ref (α 40 0)), some (.int (J (c : Int)))]) rfl (Nat.le_of_ble_eq_true rfl) ?_
  show Ev g M_X12_waiting 27 0 [some (.ref (α 40 0)), some (.int (J (c : Int)))] [] h 0 0 (UQ g α ν (some (.int (J (O 1 (4 + c) 2)))) (fun X' => X' = xs X 40 0 0 0))
  have q0 := rm_nC hM
  have q1 := wo_nC hO
  have q2 := rm_nS hM
  have q3 := wo_nS hO
  refine ev_ald0 1 dX12_waiting_0 rfl ?_
  refine ev_ald0 2 dX12_waiting_1 rfl ?_
  refine ev_ild1 3 dX12_waiting_2 rfl ?_
  refine tc_V1 6 14 dX12_waiting_3 lkv_X12_151 (tr40 hT) rfl rfl (by first | decide | omega) (Nat.le_of_ble_eq_true rfl) (isCourse_ok hT hO hM (by omega)) ?_
  refine tj_if_eq 13 9 dX12_waiting_6 (by decide) rfl (by first | exact TR.rng hT _ _ _ | exact R31_of _ | exact bi_R _ | (constructor <;> omega)) (fun c6 => ?_) (fun c6 => ?_)
  · exact False.elim (by omega)
  · skip
    refine tj_iconst 10 dX12_waiting_9 rfl ?_
    refine ev_goto 14 dX12_waiting_10 (by decide) ?_
    refine tm_V1 17 14 dX12_waiting_14 lkv_X12_144 (tr40 hT) rfl rfl (by first | decide | omega) (Nat.le_of_ble_eq_true rfl) (goes_0 hT) (fun h X1 hT hP14 => ?_)
    have hM1 := hM
    have hM : RM O X1 := by rw [hP14]; exact rm_th hM1 _
    have q0 := rm_nC hM
    have q2 := rm_nS hM
    refine tj_if_eq 29 20 dX12_waiting_17 (by decide) rfl (by first | exact TR.rng hT _ _ _ | exact R31_of _ | exact bi_R _ | (constructor <;> omega)) (fun c17 => ?_) (fun c17 => ?_)
    · exact False.elim (by omega)
    · skip
      refine ev_ald0 21 dX12_waiting_20 rfl ?_
      refine ev_getfield 24 14 8 fl_X12_22_14 (tr40 hT) rfl dX12_waiting_21 rfl ?_
      refine ev_ild1 25 dX12_waiting_24 rfl ?_
      refine tv_iald 26 (tr48 hT) (c) (by omega) (by omega) (by omega) dX12_waiting_25 rfl ?_
      refine ev_goto 30 dX12_waiting_26 (by decide) ?_
      exact ev_ireturn (uq_i (by first | rfl | omega | exact bi_dt (by omega) | exact bi_df (by omega) | (first | exact rm_wN hM c hc | skip)) hT (by assumption)) rfl dX12_waiting_30
set_option maxRecDepth 100000 in
set_option maxHeartbeats 4000000 in
theorem c_X12_placeOf_b1 {g : Gt} {α : AL} {ν : Nat → Nat → Bool} {X : XM} {h : AH} (hT : TR g α ν X h) {O : XM} (hO : WO O) (hM : RM O X) {b : Int} (hb : R31 b) (hn : ¬ (0 ≤ b ∧ b < nS O)) {a1 : Int} (ha1 : R31 a1) : Mu g α ν M_X12_placeOf 27 [.ref (α 40 0), .int (J b), .int (J a1)] h (some (.int (J (0)))) (fun X' => X' = xs X 40 0 0 1) := by
  refine mu_of rfl rfl (ls := [some (.ref (α 40 0)), some (.int (J b)), some (.int (J a1)), none]) rfl (Nat.le_of_ble_eq_true rfl) ?_
  show Ev g M_X12_placeOf 27 0 [some (.ref (α 40 0)), some (.int (J b)), some (.int (J a1)), none] [] h 0 0 (UQ g α ν (some (.int (J (0)))) (fun X' => X' = xs X 40 0 0 1))
  have q0 := rm_nC hM
  have q1 := wo_nC hO
  have q2 := rm_nS hM
  have q3 := wo_nS hO
  refine ev_ald0 1 dX12_placeOf_0 rfl ?_
  refine ev_ild1 2 dX12_placeOf_1 rfl ?_
  refine tc_V1 5 14 dX12_placeOf_2 lkv_X12_158 (tr40 hT) rfl rfl (by first | decide | omega) (Nat.le_of_ble_eq_true rfl) (isStudent_no hT hO hM hb hn) ?_
  refine tj_if_eq 16 8 dX12_placeOf_5 (by decide) rfl (by first | exact TR.rng hT _ _ _ | exact R31_of _ | exact bi_R _ | (constructor <;> omega)) (fun c5 => ?_) (fun c5 => ?_)
  · skip
    refine tj_iconst 17 dX12_placeOf_16 rfl ?_
    refine ev_goto 35 dX12_placeOf_17 (by decide) ?_
    refine ev_ist3 36 dX12_placeOf_35 rfl (by decide) rfl ?_
    refine ev_ald0 37 dX12_placeOf_36 rfl ?_
    refine ev_ild3 38 dX12_placeOf_37 rfl ?_
    refine tm_V1 41 14 dX12_placeOf_38 lkv_X12_144 (tr40 hT) rfl rfl (by first | decide | omega) (Nat.le_of_ble_eq_true rfl) (goes_n hT (by omega)) (fun h X1 hT hP38 => ?_)
    have hM1 := hM
    have hM : RM O X1 := by rw [hP38]; exact rm_th hM1 _
    have q0 := rm_nC hM
    have q2 := rm_nS hM
    refine tj_if_eq 53 44 dX12_placeOf_41 (by decide) rfl (by first | exact TR.rng hT _ _ _ | exact R31_of _ | exact bi_R _ | (constructor <;> omega)) (fun c41 => ?_) (fun c41 => ?_)
    · skip
      refine tj_iconst 54 dX12_placeOf_53 rfl ?_
      exact ev_ireturn (uq_i (by first | rfl | omega | exact bi_dt (by omega) | exact bi_df (by omega) | (skip)) hT (by assumption)) rfl dX12_placeOf_54
    · exact False.elim (by omega)
  · exact False.elim (by omega)
set_option maxRecDepth 100000 in
set_option maxHeartbeats 4000000 in
theorem c_X12_placeOf_b2 {g : Gt} {α : AL} {ν : Nat → Nat → Bool} {X : XM} {h : AH} (hT : TR g α ν X h) {O : XM} (hO : WO O) (hM : RM O X) {s : Nat} (hs : (s : Int) < nS O) {b : Int} (hb : R31 b) (hn : ¬ (0 ≤ b ∧ b < nC O)) : Mu g α ν M_X12_placeOf 27 [.ref (α 40 0), .int (J (s : Int)), .int (J b)] h (some (.int (J (0)))) (fun X' => X' = xs X 40 0 0 1) := by
  refine mu_of rfl rfl (ls := [some (.ref (α 40 0)), some (.int (J (s : Int))), some (.int (J b)), none]) rfl (Nat.le_of_ble_eq_true rfl) ?_
  show Ev g M_X12_placeOf 27 0 [some (.ref (α 40 0)), some (.int (J (s : Int))), some (.int (J b)), none] [] h 0 0 (UQ g α ν (some (.int (J (0)))) (fun X' => X' = xs X 40 0 0 1))
  have q0 := rm_nC hM
  have q1 := wo_nC hO
  have q2 := rm_nS hM
  have q3 := wo_nS hO
  refine ev_ald0 1 dX12_placeOf_0 rfl ?_
  refine ev_ild1 2 dX12_placeOf_1 rfl ?_
  refine tc_V1 5 14 dX12_placeOf_2 lkv_X12_158 (tr40 hT) rfl rfl (by first | decide | omega) (Nat.le_of_ble_eq_true rfl) (isStudent_ok hT hO hM (by omega)) ?_
  refine tj_if_eq 16 8 dX12_placeOf_5 (by decide) rfl (by first | exact TR.rng hT _ _ _ | exact R31_of _ | exact bi_R _ | (constructor <;> omega)) (fun c5 => ?_) (fun c5 => ?_)
  · exact False.elim (by omega)
  · skip
    refine ev_ald0 9 dX12_placeOf_8 rfl ?_
    refine ev_ild2 10 dX12_placeOf_9 rfl ?_
    refine tc_V1 13 14 dX12_placeOf_10 lkv_X12_151 (tr40 hT) rfl rfl (by first | decide | omega) (Nat.le_of_ble_eq_true rfl) (isCourse_no hT hO hM hb hn) ?_
    refine tj_if_ne 20 16 dX12_placeOf_13 (by decide) rfl (by first | exact TR.rng hT _ _ _ | exact R31_of _ | exact bi_R _ | (constructor <;> omega)) (fun c13 => ?_) (fun c13 => ?_)
    · exact False.elim (by omega)
    · skip
      refine tj_iconst 17 dX12_placeOf_16 rfl ?_
      refine ev_goto 35 dX12_placeOf_17 (by decide) ?_
      refine ev_ist3 36 dX12_placeOf_35 rfl (by decide) rfl ?_
      refine ev_ald0 37 dX12_placeOf_36 rfl ?_
      refine ev_ild3 38 dX12_placeOf_37 rfl ?_
      refine tm_V1 41 14 dX12_placeOf_38 lkv_X12_144 (tr40 hT) rfl rfl (by first | decide | omega) (Nat.le_of_ble_eq_true rfl) (goes_n hT (by omega)) (fun h X1 hT hP38 => ?_)
      have hM1 := hM
      have hM : RM O X1 := by rw [hP38]; exact rm_th hM1 _
      have q0 := rm_nC hM
      have q2 := rm_nS hM
      refine tj_if_eq 53 44 dX12_placeOf_41 (by decide) rfl (by first | exact TR.rng hT _ _ _ | exact R31_of _ | exact bi_R _ | (constructor <;> omega)) (fun c41 => ?_) (fun c41 => ?_)
      · skip
        refine tj_iconst 54 dX12_placeOf_53 rfl ?_
        exact ev_ireturn (uq_i (by first | rfl | omega | exact bi_dt (by omega) | exact bi_df (by omega) | (skip)) hT (by assumption)) rfl dX12_placeOf_54
      · exact False.elim (by omega)
set_option maxRecDepth 100000 in
set_option maxHeartbeats 4000000 in
theorem c_X12_placeOf_ok {g : Gt} {α : AL} {ν : Nat → Nat → Bool} {X : XM} {h : AH} (hT : TR g α ν X h) {O : XM} (hO : WO O) (hM : RM O X) {s : Nat} (hs : (s : Int) < nS O) {c : Nat} (hc : (c : Int) < nC O) (hb : place O c s ≠ -1) : Mu g α ν M_X12_placeOf 27 [.ref (α 40 0), .int (J (s : Int)), .int (J (c : Int))] h (some (.int (J (place O c s)))) (fun X' => X' = xs X 40 0 0 0) := by
  refine mu_of rfl rfl (ls := [some (.ref (α 40 0)), some (.int (J (s : Int))), some (.int (J (c : Int))), none]) rfl (Nat.le_of_ble_eq_true rfl) ?_
  show Ev g M_X12_placeOf 27 0 [some (.ref (α 40 0)), some (.int (J (s : Int))), some (.int (J (c : Int))), none] [] h 0 0 (UQ g α ν (some (.int (J (place O c s)))) (fun X' => X' = xs X 40 0 0 0))
  have q0 := rm_nC hM
  have q1 := wo_nC hO
  have q2 := rm_nS hM
  have q3 := wo_nS hO
  have wp := place_R hO hc s
  refine ev_ald0 1 dX12_placeOf_0 rfl ?_
  refine ev_ild1 2 dX12_placeOf_1 rfl ?_
  refine tc_V1 5 14 dX12_placeOf_2 lkv_X12_158 (tr40 hT) rfl rfl (by first | decide | omega) (Nat.le_of_ble_eq_true rfl) (isStudent_ok hT hO hM (by omega)) ?_
  refine tj_if_eq 16 8 dX12_placeOf_5 (by decide) rfl (by first | exact TR.rng hT _ _ _ | exact R31_of _ | exact bi_R _ | (constructor <;> omega)) (fun c5 => ?_) (fun c5 => ?_)
  · exact False.elim (by omega)
  · skip
    refine ev_ald0 9 dX12_placeOf_8 rfl ?_
    refine ev_ild2 10 dX12_placeOf_9 rfl ?_
    refine tc_V1 13 14 dX12_placeOf_10 lkv_X12_151 (tr40 hT) rfl rfl (by first | decide | omega) (Nat.le_of_ble_eq_true rfl) (isCourse_ok hT hO hM (by omega)) ?_
    refine tj_if_ne 20 16 dX12_placeOf_13 (by decide) rfl (by first | exact TR.rng hT _ _ _ | exact R31_of _ | exact bi_R _ | (constructor <;> omega)) (fun c13 => ?_) (fun c13 => ?_)
    · skip
      refine ev_ald0 21 dX12_placeOf_20 rfl ?_
      refine ev_ild2 22 dX12_placeOf_21 rfl ?_
      refine ev_ild1 23 dX12_placeOf_22 rfl ?_
      refine tc_V2 26 14 dX12_placeOf_23 lkv_X12_202 (tr40 hT) rfl rfl (by first | decide | omega) (Nat.le_of_ble_eq_true rfl) (c_X12_placeIn hT hO hM (by omega) (by omega)) ?_
      refine tj_iconst 27 dX12_placeOf_26 rfl ?_
      refine tj_icmp_ne 34 30 dX12_placeOf_27 (by decide) rfl (by first | exact TR.rng hT _ _ _ | exact R31_of _ | exact bi_R _ | (constructor <;> omega)) (by first | exact TR.rng hT _ _ _ | exact R31_of _ | exact bi_R _ | (constructor <;> omega)) (fun c27 => ?_) (fun c27 => ?_)
      · skip
        refine tj_iconst 35 dX12_placeOf_34 rfl ?_
        refine ev_ist3 36 dX12_placeOf_35 rfl (by decide) rfl ?_
        refine ev_ald0 37 dX12_placeOf_36 rfl ?_
        refine ev_ild3 38 dX12_placeOf_37 rfl ?_
        refine tm_V1 41 14 dX12_placeOf_38 lkv_X12_144 (tr40 hT) rfl rfl (by first | decide | omega) (Nat.le_of_ble_eq_true rfl) (goes_0 hT) (fun h X1 hT hP38 => ?_)
        have hM1 := hM
        have hM : RM O X1 := by rw [hP38]; exact rm_th hM1 _
        have q0 := rm_nC hM
        have q2 := rm_nS hM
        refine tj_if_eq 53 44 dX12_placeOf_41 (by decide) rfl (by first | exact TR.rng hT _ _ _ | exact R31_of _ | exact bi_R _ | (constructor <;> omega)) (fun c41 => ?_) (fun c41 => ?_)
        · exact False.elim (by omega)
        · skip
          refine ev_ald0 45 dX12_placeOf_44 rfl ?_
          refine ev_ild2 46 dX12_placeOf_45 rfl ?_
          refine ev_ild1 47 dX12_placeOf_46 rfl ?_
          refine tc_V2 50 14 dX12_placeOf_47 lkv_X12_202 (tr40 hT) rfl rfl (by first | decide | omega) (Nat.le_of_ble_eq_true rfl) (c_X12_placeIn hT hO hM (by omega) (by omega)) ?_
          refine ev_goto 54 dX12_placeOf_50 (by decide) ?_
          exact ev_ireturn (uq_i (by first | rfl | omega | exact bi_dt (by omega) | exact bi_df (by omega) | (skip)) hT (by assumption)) rfl dX12_placeOf_54
      · exact False.elim (by omega)
    · exact False.elim (by omega)
set_option maxRecDepth 100000 in
set_option maxHeartbeats 4000000 in
theorem c_X12_placeOf_x2 {g : Gt} {α : AL} {ν : Nat → Nat → Bool} {X : XM} {h : AH} (hT : TR g α ν X h) {O : XM} (hO : WO O) (hM : RM O X) {s : Nat} (hs : (s : Int) < nS O) {c : Nat} (hc : (c : Int) < nC O) (hb : place O c s = -1) : Mu g α ν M_X12_placeOf 27 [.ref (α 40 0), .int (J (s : Int)), .int (J (c : Int))] h (some (.int (J (0)))) (fun X' => X' = xs X 40 0 0 2) := by
  refine mu_of rfl rfl (ls := [some (.ref (α 40 0)), some (.int (J (s : Int))), some (.int (J (c : Int))), none]) rfl (Nat.le_of_ble_eq_true rfl) ?_
  show Ev g M_X12_placeOf 27 0 [some (.ref (α 40 0)), some (.int (J (s : Int))), some (.int (J (c : Int))), none] [] h 0 0 (UQ g α ν (some (.int (J (0)))) (fun X' => X' = xs X 40 0 0 2))
  have q0 := rm_nC hM
  have q1 := wo_nC hO
  have q2 := rm_nS hM
  have q3 := wo_nS hO
  have wp := place_R hO hc s
  refine ev_ald0 1 dX12_placeOf_0 rfl ?_
  refine ev_ild1 2 dX12_placeOf_1 rfl ?_
  refine tc_V1 5 14 dX12_placeOf_2 lkv_X12_158 (tr40 hT) rfl rfl (by first | decide | omega) (Nat.le_of_ble_eq_true rfl) (isStudent_ok hT hO hM (by omega)) ?_
  refine tj_if_eq 16 8 dX12_placeOf_5 (by decide) rfl (by first | exact TR.rng hT _ _ _ | exact R31_of _ | exact bi_R _ | (constructor <;> omega)) (fun c5 => ?_) (fun c5 => ?_)
  · exact False.elim (by omega)
  · skip
    refine ev_ald0 9 dX12_placeOf_8 rfl ?_
    refine ev_ild2 10 dX12_placeOf_9 rfl ?_
    refine tc_V1 13 14 dX12_placeOf_10 lkv_X12_151 (tr40 hT) rfl rfl (by first | decide | omega) (Nat.le_of_ble_eq_true rfl) (isCourse_ok hT hO hM (by omega)) ?_
    refine tj_if_ne 20 16 dX12_placeOf_13 (by decide) rfl (by first | exact TR.rng hT _ _ _ | exact R31_of _ | exact bi_R _ | (constructor <;> omega)) (fun c13 => ?_) (fun c13 => ?_)
    · skip
      refine ev_ald0 21 dX12_placeOf_20 rfl ?_
      refine ev_ild2 22 dX12_placeOf_21 rfl ?_
      refine ev_ild1 23 dX12_placeOf_22 rfl ?_
      refine tc_V2 26 14 dX12_placeOf_23 lkv_X12_202 (tr40 hT) rfl rfl (by first | decide | omega) (Nat.le_of_ble_eq_true rfl) (c_X12_placeIn hT hO hM (by omega) (by omega)) ?_
      refine tj_iconst 27 dX12_placeOf_26 rfl ?_
      refine tj_icmp_ne 34 30 dX12_placeOf_27 (by decide) rfl (by first | exact TR.rng hT _ _ _ | exact R31_of _ | exact bi_R _ | (constructor <;> omega)) (by first | exact TR.rng hT _ _ _ | exact R31_of _ | exact bi_R _ | (constructor <;> omega)) (fun c27 => ?_) (fun c27 => ?_)
      · exact False.elim (by omega)
      · skip
        refine tj_iconst 31 dX12_placeOf_30 rfl ?_
        refine ev_goto 35 dX12_placeOf_31 (by decide) ?_
        refine ev_ist3 36 dX12_placeOf_35 rfl (by decide) rfl ?_
        refine ev_ald0 37 dX12_placeOf_36 rfl ?_
        refine ev_ild3 38 dX12_placeOf_37 rfl ?_
        refine tm_V1 41 14 dX12_placeOf_38 lkv_X12_144 (tr40 hT) rfl rfl (by first | decide | omega) (Nat.le_of_ble_eq_true rfl) (goes_n hT (by omega)) (fun h X1 hT hP38 => ?_)
        have hM1 := hM
        have hM : RM O X1 := by rw [hP38]; exact rm_th hM1 _
        have q0 := rm_nC hM
        have q2 := rm_nS hM
        refine tj_if_eq 53 44 dX12_placeOf_41 (by decide) rfl (by first | exact TR.rng hT _ _ _ | exact R31_of _ | exact bi_R _ | (constructor <;> omega)) (fun c41 => ?_) (fun c41 => ?_)
        · skip
          refine tj_iconst 54 dX12_placeOf_53 rfl ?_
          exact ev_ireturn (uq_i (by first | rfl | omega | exact bi_dt (by omega) | exact bi_df (by omega) | (skip)) hT (by assumption)) rfl dX12_placeOf_54
        · exact False.elim (by omega)
    · exact False.elim (by omega)
set_option maxRecDepth 100000 in
set_option maxHeartbeats 4000000 in
theorem c_X12_outcome_b1 {g : Gt} {α : AL} {ν : Nat → Nat → Bool} {X : XM} {h : AH} (hT : TR g α ν X h) {O : XM} (hO : WO O) (hM : RM O X) {b : Int} (hb : R31 b) (hn : ¬ (0 ≤ b ∧ b < nS O)) {a1 : Int} (ha1 : R31 a1) : Mu g α ν M_X12_outcome 27 [.ref (α 40 0), .int (J b), .int (J a1)] h (some (.int (J (0)))) (fun X' => X' = xs X 40 0 0 1) := by
  refine mu_of rfl rfl (ls := [some (.ref (α 40 0)), some (.int (J b)), some (.int (J a1))]) rfl (Nat.le_of_ble_eq_true rfl) ?_
  show Ev g M_X12_outcome 27 0 [some (.ref (α 40 0)), some (.int (J b)), some (.int (J a1))] [] h 0 0 (UQ g α ν (some (.int (J (0)))) (fun X' => X' = xs X 40 0 0 1))
  have q0 := rm_nC hM
  have q1 := wo_nC hO
  have q2 := rm_nS hM
  have q3 := wo_nS hO
  refine ev_ald0 1 dX12_outcome_0 rfl ?_
  refine ev_ald0 2 dX12_outcome_1 rfl ?_
  refine ev_ild1 3 dX12_outcome_2 rfl ?_
  refine tc_V1 6 14 dX12_outcome_3 lkv_X12_158 (tr40 hT) rfl rfl (by first | decide | omega) (Nat.le_of_ble_eq_true rfl) (isStudent_no hT hO hM hb hn) ?_
  refine tj_if_eq 21 9 dX12_outcome_6 (by decide) rfl (by first | exact TR.rng hT _ _ _ | exact R31_of _ | exact bi_R _ | (constructor <;> omega)) (fun c6 => ?_) (fun c6 => ?_)
  · skip
    refine tj_iconst 22 dX12_outcome_21 rfl ?_
    refine tm_V1 25 14 dX12_outcome_22 lkv_X12_144 (tr40 hT) rfl rfl (by first | decide | omega) (Nat.le_of_ble_eq_true rfl) (goes_n hT (by omega)) (fun h X1 hT hP22 => ?_)
    have hM1 := hM
    have hM : RM O X1 := by rw [hP22]; exact rm_th hM1 _
    have q0 := rm_nC hM
    have q2 := rm_nS hM
    refine tj_if_eq 37 28 dX12_outcome_25 (by decide) rfl (by first | exact TR.rng hT _ _ _ | exact R31_of _ | exact bi_R _ | (constructor <;> omega)) (fun c25 => ?_) (fun c25 => ?_)
    · skip
      refine tj_iconst 38 dX12_outcome_37 rfl ?_
      exact tz_retcU (by first | rfl | omega | exact bi_dt (by omega) | exact bi_df (by omega) | (skip)) (by first | decide | omega) hT (by assumption) rfl dX12_outcome_38
    · exact False.elim (by omega)
  · exact False.elim (by omega)
set_option maxRecDepth 100000 in
set_option maxHeartbeats 4000000 in
theorem c_X12_outcome_b2 {g : Gt} {α : AL} {ν : Nat → Nat → Bool} {X : XM} {h : AH} (hT : TR g α ν X h) {O : XM} (hO : WO O) (hM : RM O X) {s : Nat} (hs : (s : Int) < nS O) {b : Int} (hb : R31 b) (hn : ¬ (0 ≤ b ∧ b < nC O)) : Mu g α ν M_X12_outcome 27 [.ref (α 40 0), .int (J (s : Int)), .int (J b)] h (some (.int (J (0)))) (fun X' => X' = xs X 40 0 0 1) := by
  refine mu_of rfl rfl (ls := [some (.ref (α 40 0)), some (.int (J (s : Int))), some (.int (J b))]) rfl (Nat.le_of_ble_eq_true rfl) ?_
  show Ev g M_X12_outcome 27 0 [some (.ref (α 40 0)), some (.int (J (s : Int))), some (.int (J b))] [] h 0 0 (UQ g α ν (some (.int (J (0)))) (fun X' => X' = xs X 40 0 0 1))
  have q0 := rm_nC hM
  have q1 := wo_nC hO
  have q2 := rm_nS hM
  have q3 := wo_nS hO
  refine ev_ald0 1 dX12_outcome_0 rfl ?_
  refine ev_ald0 2 dX12_outcome_1 rfl ?_
  refine ev_ild1 3 dX12_outcome_2 rfl ?_
  refine tc_V1 6 14 dX12_outcome_3 lkv_X12_158 (tr40 hT) rfl rfl (by first | decide | omega) (Nat.le_of_ble_eq_true rfl) (isStudent_ok hT hO hM (by omega)) ?_
  refine tj_if_eq 21 9 dX12_outcome_6 (by decide) rfl (by first | exact TR.rng hT _ _ _ | exact R31_of _ | exact bi_R _ | (constructor <;> omega)) (fun c6 => ?_) (fun c6 => ?_)
  · exact False.elim (by omega)
  · skip
    refine ev_ald0 10 dX12_outcome_9 rfl ?_
    refine ev_ild2 11 dX12_outcome_10 rfl ?_
    refine tc_V1 14 14 dX12_outcome_11 lkv_X12_151 (tr40 hT) rfl rfl (by first | decide | omega) (Nat.le_of_ble_eq_true rfl) (isCourse_no hT hO hM hb hn) ?_
    refine tj_if_eq 21 17 dX12_outcome_14 (by decide) rfl (by first | exact TR.rng hT _ _ _ | exact R31_of _ | exact bi_R _ | (constructor <;> omega)) (fun c14 => ?_) (fun c14 => ?_)
    · skip
      refine tj_iconst 22 dX12_outcome_21 rfl ?_
      refine tm_V1 25 14 dX12_outcome_22 lkv_X12_144 (tr40 hT) rfl rfl (by first | decide | omega) (Nat.le_of_ble_eq_true rfl) (goes_n hT (by omega)) (fun h X1 hT hP22 => ?_)
      have hM1 := hM
      have hM : RM O X1 := by rw [hP22]; exact rm_th hM1 _
      have q0 := rm_nC hM
      have q2 := rm_nS hM
      refine tj_if_eq 37 28 dX12_outcome_25 (by decide) rfl (by first | exact TR.rng hT _ _ _ | exact R31_of _ | exact bi_R _ | (constructor <;> omega)) (fun c25 => ?_) (fun c25 => ?_)
      · skip
        refine tj_iconst 38 dX12_outcome_37 rfl ?_
        exact tz_retcU (by first | rfl | omega | exact bi_dt (by omega) | exact bi_df (by omega) | (skip)) (by first | decide | omega) hT (by assumption) rfl dX12_outcome_38
      · exact False.elim (by omega)
    · exact False.elim (by omega)
set_option maxRecDepth 100000 in
set_option maxHeartbeats 4000000 in
theorem c_X12_outcome_ok {g : Gt} {α : AL} {ν : Nat → Nat → Bool} {X : XM} {h : AH} (hT : TR g α ν X h) {O : XM} (hO : WO O) (hM : RM O X) {s : Nat} (hs : (s : Int) < nS O) {c : Nat} (hc : (c : Int) < nC O)  : Mu g α ν M_X12_outcome 27 [.ref (α 40 0), .int (J (s : Int)), .int (J (c : Int))] h (some (.int (J (ltr O s c)))) (fun X' => X' = xs X 40 0 0 0) := by
  refine mu_of rfl rfl (ls := [some (.ref (α 40 0)), some (.int (J (s : Int))), some (.int (J (c : Int)))]) rfl (Nat.le_of_ble_eq_true rfl) ?_
  show Ev g M_X12_outcome 27 0 [some (.ref (α 40 0)), some (.int (J (s : Int))), some (.int (J (c : Int)))] [] h 0 0 (UQ g α ν (some (.int (J (ltr O s c)))) (fun X' => X' = xs X 40 0 0 0))
  have q0 := rm_nC hM
  have q1 := wo_nC hO
  have q2 := rm_nS hM
  have q3 := wo_nS hO
  refine ev_ald0 1 dX12_outcome_0 rfl ?_
  refine ev_ald0 2 dX12_outcome_1 rfl ?_
  refine ev_ild1 3 dX12_outcome_2 rfl ?_
  refine tc_V1 6 14 dX12_outcome_3 lkv_X12_158 (tr40 hT) rfl rfl (by first | decide | omega) (Nat.le_of_ble_eq_true rfl) (isStudent_ok hT hO hM (by omega)) ?_
  refine tj_if_eq 21 9 dX12_outcome_6 (by decide) rfl (by first | exact TR.rng hT _ _ _ | exact R31_of _ | exact bi_R _ | (constructor <;> omega)) (fun c6 => ?_) (fun c6 => ?_)
  · exact False.elim (by omega)
  · skip
    refine ev_ald0 10 dX12_outcome_9 rfl ?_
    refine ev_ild2 11 dX12_outcome_10 rfl ?_
    refine tc_V1 14 14 dX12_outcome_11 lkv_X12_151 (tr40 hT) rfl rfl (by first | decide | omega) (Nat.le_of_ble_eq_true rfl) (isCourse_ok hT hO hM (by omega)) ?_
    refine tj_if_eq 21 17 dX12_outcome_14 (by decide) rfl (by first | exact TR.rng hT _ _ _ | exact R31_of _ | exact bi_R _ | (constructor <;> omega)) (fun c14 => ?_) (fun c14 => ?_)
    · exact False.elim (by omega)
    · skip
      refine tj_iconst 18 dX12_outcome_17 rfl ?_
      refine ev_goto 22 dX12_outcome_18 (by decide) ?_
      refine tm_V1 25 14 dX12_outcome_22 lkv_X12_144 (tr40 hT) rfl rfl (by first | decide | omega) (Nat.le_of_ble_eq_true rfl) (goes_0 hT) (fun h X1 hT hP22 => ?_)
      have hM1 := hM
      have hM : RM O X1 := by rw [hP22]; exact rm_th hM1 _
      have q0 := rm_nC hM
      have q2 := rm_nS hM
      refine tj_if_eq 37 28 dX12_outcome_25 (by decide) rfl (by first | exact TR.rng hT _ _ _ | exact R31_of _ | exact bi_R _ | (constructor <;> omega)) (fun c25 => ?_) (fun c25 => ?_)
      · exact False.elim (by omega)
      · skip
        refine ev_ald0 29 dX12_outcome_28 rfl ?_
        refine ev_ild1 30 dX12_outcome_29 rfl ?_
        refine ev_ild2 31 dX12_outcome_30 rfl ?_
        refine tc_V2 34 14 dX12_outcome_31 lkv_X12_217 (tr40 hT) rfl rfl (by first | decide | omega) (Nat.le_of_ble_eq_true rfl) (c_X12_wouldBe hT hO hM (by omega) (by omega)) ?_
        refine ev_goto 38 dX12_outcome_34 (by decide) ?_
        exact tz_retcU (by first | rfl | omega | exact bi_dt (by omega) | exact bi_df (by omega) | (skip)) (ltr_c O s c) hT (by assumption) rfl dX12_outcome_38
