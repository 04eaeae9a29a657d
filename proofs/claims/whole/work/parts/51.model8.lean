/-! THE REFERENCE: transcripts -/
/-- the kinds that are not the reference's stand -/
def CM (X X' : XM) : Prop := ∀ kk, (kk < 40 ∨ 80 ≤ kk) → X' kk = X kk
theorem CM.rf (X : XM) : CM X X := fun _ _ => rfl
theorem CM.tr {X Y Z : XM} (h1 : CM X Y) (h2 : CM Y Z) : CM X Z := fun kk h => (h2 kk h).trans (h1 kk h)
theorem CM.xs (X : XM) {k i j : Nat} {v : Int} (hk : 40 ≤ k ∧ k < 80) : CM X (xs X k i j v) := fun kk h => xs_nk (by omega)
/-- and 'thrown' is v -/
def CZ (X X' : XM) (v : Int) : Prop := CM X X' ∧ X' 40 0 0 = v
theorem CZ.at {X Y : XM} (h : CM X Y) (v : Int) : CZ X (xs Y 40 0 0 v) v := ⟨h.tr (CM.xs _ (by decide)), by rw [xs_at, if_pos rfl]⟩
theorem CZ.go (X : XM) (v : Int) : CZ X (xs X 40 0 0 v) v := CZ.at (CM.rf X) v
theorem CZ.st {X Y : XM} {v : Int} (h : CZ X Y v) {k i j : Nat} {w : Int} (hk : 41 ≤ k ∧ k < 80) : CZ X (xs Y k i j w) v := ⟨h.1.tr (CM.xs _ (by omega)), by rw [xs_nk (by omega)]; exact h.2⟩
theorem CZ.x4 {X Y : XM} {v : Int} (h : CZ X Y v) {j : Nat} {w : Int} (hj : j ≠ 0) : CZ X (xs Y 40 0 j w) v := ⟨h.1.tr (CM.xs _ (by decide)), by rw [xs_at, if_neg (fun z => hj z.symm)]; exact h.2⟩
theorem CZ.fm {X Y Z : XM} {v : Int} (h : CZ X Y v) (f : FM Y Z) : CZ X Z v := ⟨fun kk q => by rw [f kk (by omega)]; exact h.1 kk q, by rw [f 40 (by decide)]; exact h.2⟩
/-- the reference's text says l -/
def WM (X : XM) (l : List Int) (Y : XM) : Prop := (∀ k, k ≠ 40 → k ≠ 71 → Y k = X k) ∧ (∀ j, j ≠ 32 → Y 40 0 j = X 40 0 j) ∧ Y 40 0 32 = l.length ∧ ∀ j, j < l.length → Y 71 0 j = l.getD j 0
theorem WM_CM {X Y : XM} {l : List Int} (h : WM X l Y) : CM X Y := fun kk q => h.1 kk (by omega) (by omega)
theorem WM_put {X Y : XM} {l : List Int} {v : Int} (h : WM X l Y) : WM X (l ++ [v]) (xs (xs Y 71 0 l.length v) 40 0 32 (l.length + 1)) := by
  obtain ⟨a1, a0, a2, a3⟩ := h
  refine ⟨fun k h1 h2 => by rw [xs_nk h1, xs_nk h2]; exact a1 k h1 h2, fun j hj => by rw [xs_at, if_neg hj, xs_nk (by decide)]; exact a0 j hj, by rw [xs_at, if_pos rfl]; simp, fun j hj => ?_⟩
  rw [xs_nk (by decide), xs_at]
  by_cases e : j = l.length
  · subst e; rw [if_pos rfl]; simp [List.getD]
  · have hj2 : j < l.length := by simp at hj; omega
    rw [if_neg e, a3 j hj2]
    simp [List.getD, List.getElem?_append_left hj2]
theorem WM_0 (X : XM) : WM X [] (xs X 40 0 32 0) := ⟨fun k h1 _ => xs_nk h1, fun j hj => by rw [xs_at, if_neg hj], by rw [xs_at, if_pos rfl]; rfl, fun j hj => absurd hj (Nat.not_lt_zero j)⟩
theorem rm_WM {O X Y : XM} {l : List Int} (h : RM O X) (hI : WM X l Y) : RM O Y := rm_cg h (fun k h1 h2 => hI.1 k (by omega) (by omega)) (fun j hj => hI.2.1 j (by omega))
set_option maxRecDepth 100000 in
set_option maxHeartbeats 4000000 in
theorem c_X12_writes {g : Gt} {α : AL} {ν : Nat → Nat → Bool} {X : XM} {h : AH} {Y : XM} (hT : TR g α ν Y h) {l : List Int} (hI : WM X l Y) {v : Int} (hv : R31 v) (hl : l.length < 400) : Mu g α ν M_X12_writes 0 [.ref (α 40 0), .int (J v)] h (none) (fun Y' => WM X (l ++ [v]) Y') := by
  refine mu_of rfl rfl (ls := [some (.ref (α 40 0)), some (.int (J v))]) rfl (Nat.le_of_ble_eq_true rfl) ?_
  show Ev g M_X12_writes 0 0 [some (.ref (α 40 0)), some (.int (J v))] [] h 0 0 (UQ g α ν (none) (fun Y' => WM X (l ++ [v]) Y'))
  have e1 := hI.2.2.1
  refine ev_ald0 1 dX12_writes_0 rfl ?_
  refine ev_getfield 4 14 31 fl_X12_76_14 (tr40 hT) rfl dX12_writes_1 rfl ?_
  refine ev_ald0 5 dX12_writes_4 rfl ?_
  refine ev_getfield 8 14 32 fl_X12_242_14 (tr40 hT) rfl dX12_writes_5 rfl ?_
  refine ev_ild1 9 dX12_writes_8 rfl ?_
  refine tv_iast 10 hT (tv71 hT) (fun _ => rfl) (l.length) (by omega) (by omega) (by omega) (by first | exact TR.rng hT _ _ _ | exact R31_of _ | exact bi_R _ | (constructor <;> omega)) dX12_writes_9 rfl (fun h hT => ?_)
  obtain ⟨X3, hX3⟩ : ∃ Z, Z = xs Y 71 0 l.length v := ⟨_, rfl⟩
  rw [← hX3] at hT
  have e3 : X3 40 0 32 = l.length := by rw [hX3, xs_nk (by decide)]; exact e1
  refine ev_ald0 11 dX12_writes_10 rfl ?_
  refine ev_dup 12 dX12_writes_11 rfl rfl ?_
  refine ev_getfield 15 14 32 fl_X12_242_14 (tr40 hT) rfl dX12_writes_12 rfl ?_
  refine tj_iconst 16 dX12_writes_15 rfl ?_
  refine tj_iadd 17 dX12_writes_16 rfl ?_
  refine tv_puti 20 32 .int fl_X12_242_14 fp_14_32 hT (tv40 hT) (fun _ => rfl) rfl (Nat.le_of_ble_eq_true rfl) rfl rfl (by first | exact TR.rng hT _ _ _ | exact R31_of _ | exact bi_R _ | (constructor <;> omega)) dX12_writes_17 rfl (fun h hT => ?_)
  exact ev_vreturn (uq_v hT (by rw [e3, hX3]; exact WM_put hI)) rfl dX12_writes_20
set_option maxRecDepth 100000 in
set_option maxHeartbeats 4000000 in
theorem c_X12_writesNumber {g : Gt} {α : AL} {ν : Nat → Nat → Bool} {X : XM} {h : AH} {Y : XM} (hT : TR g α ν Y h) {l : List Int} (hI : WM X l Y) {v : Int} (hv : 0 ≤ v ∧ v ≤ 100) (hl : l.length + 3 ≤ 400) : Mu g α ν M_X12_writesNumber 1 [.ref (α 40 0), .int (J v)] h (none) (fun Y' => WM X (l ++ numL v) Y') := by
  refine mu_of rfl rfl (ls := [some (.ref (α 40 0)), some (.int (J v))]) rfl (Nat.le_of_ble_eq_true rfl) ?_
  show Ev g M_X12_writesNumber 1 0 [some (.ref (α 40 0)), some (.int (J v))] [] h 0 0 (UQ g α ν (none) (fun Y' => WM X (l ++ numL v) Y'))
  refine ev_ild1 1 dX12_writesNumber_0 rfl ?_
  refine tj_bipush 3 dX12_writesNumber_1 (by decide) rfl ?_
  refine tj_icmp_le 17 6 dX12_writesNumber_3 (by decide) rfl (by first | exact TR.rng hT _ _ _ | exact R31_of _ | exact bi_R _ | (constructor <;> omega)) (by first | exact TR.rng hT _ _ _ | exact R31_of _ | exact bi_R _ | (constructor <;> omega)) (fun c3 => ?_) (fun c3 => ?_)
  · skip
    refine ev_ild1 18 dX12_writesNumber_17 rfl ?_
    refine tj_bipush 20 dX12_writesNumber_18 (by decide) rfl ?_
    refine tj_icmp_le 37 23 dX12_writesNumber_20 (by decide) rfl (by first | exact TR.rng hT _ _ _ | exact R31_of _ | exact bi_R _ | (constructor <;> omega)) (by first | exact TR.rng hT _ _ _ | exact R31_of _ | exact bi_R _ | (constructor <;> omega)) (fun c20 => ?_) (fun c20 => ?_)
    · skip
      refine ev_ald0 38 dX12_writesNumber_37 rfl ?_
      refine tj_bipush 40 dX12_writesNumber_38 (by decide) rfl ?_
      refine ev_ild1 41 dX12_writesNumber_40 rfl ?_
      refine tj_bipush 43 dX12_writesNumber_41 (by decide) rfl ?_
      refine tj_irem 44 dX12_writesNumber_43 (by omega) (by omega) rfl ?_
      refine tj_iadd 45 dX12_writesNumber_44 rfl ?_
      refine tmv_V1 48 14 dX12_writesNumber_45 lkv_X12_245 (tr40 hT) rfl rfl (by first | decide | omega) (Nat.le_of_ble_eq_true rfl) (c_X12_writes hT hI (by constructor <;> omega) (by first | omega | (simp only [List.length_append, List.length_cons, List.length_nil]; omega))) (fun h X1 hT hP45 => ?_)
      have hI := hP45
      exact ev_vreturn (uq_v hT (by first | (exfalso; omega) | (show WM X (l ++ numL v) _; unfold numL; (first | rw [if_pos (show (100 : Int) ≤ v by omega), show v / 100 % 10 = v / 100 by omega] | rw [if_neg (show ¬ (100 : Int) ≤ v by omega)]); (first | rw [if_pos (show (10 : Int) ≤ v by omega)] | rw [if_neg (show ¬ (10 : Int) ≤ v by omega)]); simpa using hI))) rfl dX12_writesNumber_48
    · skip
      refine ev_ald0 24 dX12_writesNumber_23 rfl ?_
      refine tj_bipush 26 dX12_writesNumber_24 (by decide) rfl ?_
      refine ev_ild1 27 dX12_writesNumber_26 rfl ?_
      refine tj_bipush 29 dX12_writesNumber_27 (by decide) rfl ?_
      refine tj_idiv 30 dX12_writesNumber_29 (by omega) (by omega) rfl ?_
      refine tj_bipush 32 dX12_writesNumber_30 (by decide) rfl ?_
      refine tj_irem 33 dX12_writesNumber_32 (by omega) (by omega) rfl ?_
      refine tj_iadd 34 dX12_writesNumber_33 rfl ?_
      refine tmv_V1 37 14 dX12_writesNumber_34 lkv_X12_245 (tr40 hT) rfl rfl (by first | decide | omega) (Nat.le_of_ble_eq_true rfl) (c_X12_writes hT hI (by constructor <;> omega) (by first | omega | (simp only [List.length_append, List.length_cons, List.length_nil]; omega))) (fun h X1 hT hP34 => ?_)
      have hI := hP34
      refine ev_ald0 38 dX12_writesNumber_37 rfl ?_
      refine tj_bipush 40 dX12_writesNumber_38 (by decide) rfl ?_
      refine ev_ild1 41 dX12_writesNumber_40 rfl ?_
      refine tj_bipush 43 dX12_writesNumber_41 (by decide) rfl ?_
      refine tj_irem 44 dX12_writesNumber_43 (by omega) (by omega) rfl ?_
      refine tj_iadd 45 dX12_writesNumber_44 rfl ?_
      refine tmv_V1 48 14 dX12_writesNumber_45 lkv_X12_245 (tr40 hT) rfl rfl (by first | decide | omega) (Nat.le_of_ble_eq_true rfl) (c_X12_writes hT hI (by constructor <;> omega) (by first | omega | (simp only [List.length_append, List.length_cons, List.length_nil]; omega))) (fun h X1 hT hP45 => ?_)
      have hI := hP45
      exact ev_vreturn (uq_v hT (by first | (exfalso; omega) | (show WM X (l ++ numL v) _; unfold numL; (first | rw [if_pos (show (100 : Int) ≤ v by omega), show v / 100 % 10 = v / 100 by omega] | rw [if_neg (show ¬ (100 : Int) ≤ v by omega)]); (first | rw [if_pos (show (10 : Int) ≤ v by omega)] | rw [if_neg (show ¬ (10 : Int) ≤ v by omega)]); simpa using hI))) rfl dX12_writesNumber_48
  · skip
    refine ev_ald0 7 dX12_writesNumber_6 rfl ?_
    refine tj_bipush 9 dX12_writesNumber_7 (by decide) rfl ?_
    refine ev_ild1 10 dX12_writesNumber_9 rfl ?_
    refine tj_bipush 12 dX12_writesNumber_10 (by decide) rfl ?_
    refine tj_idiv 13 dX12_writesNumber_12 (by omega) (by omega) rfl ?_
    refine tj_iadd 14 dX12_writesNumber_13 rfl ?_
    refine tmv_V1 17 14 dX12_writesNumber_14 lkv_X12_245 (tr40 hT) rfl rfl (by first | decide | omega) (Nat.le_of_ble_eq_true rfl) (c_X12_writes hT hI (by constructor <;> omega) (by first | omega | (simp only [List.length_append, List.length_cons, List.length_nil]; omega))) (fun h X1 hT hP14 => ?_)
    have hI := hP14
    refine ev_ild1 18 dX12_writesNumber_17 rfl ?_
    refine tj_bipush 20 dX12_writesNumber_18 (by decide) rfl ?_
    refine tj_icmp_le 37 23 dX12_writesNumber_20 (by decide) rfl (by first | exact TR.rng hT _ _ _ | exact R31_of _ | exact bi_R _ | (constructor <;> omega)) (by first | exact TR.rng hT _ _ _ | exact R31_of _ | exact bi_R _ | (constructor <;> omega)) (fun c20 => ?_) (fun c20 => ?_)
    · skip
      refine ev_ald0 38 dX12_writesNumber_37 rfl ?_
      refine tj_bipush 40 dX12_writesNumber_38 (by decide) rfl ?_
      refine ev_ild1 41 dX12_writesNumber_40 rfl ?_
      refine tj_bipush 43 dX12_writesNumber_41 (by decide) rfl ?_
      refine tj_irem 44 dX12_writesNumber_43 (by omega) (by omega) rfl ?_
      refine tj_iadd 45 dX12_writesNumber_44 rfl ?_
      refine tmv_V1 48 14 dX12_writesNumber_45 lkv_X12_245 (tr40 hT) rfl rfl (by first | decide | omega) (Nat.le_of_ble_eq_true rfl) (c_X12_writes hT hI (by constructor <;> omega) (by first | omega | (simp only [List.length_append, List.length_cons, List.length_nil]; omega))) (fun h X1 hT hP45 => ?_)
      have hI := hP45
      exact ev_vreturn (uq_v hT (by first | (exfalso; omega) | (show WM X (l ++ numL v) _; unfold numL; (first | rw [if_pos (show (100 : Int) ≤ v by omega), show v / 100 % 10 = v / 100 by omega] | rw [if_neg (show ¬ (100 : Int) ≤ v by omega)]); (first | rw [if_pos (show (10 : Int) ≤ v by omega)] | rw [if_neg (show ¬ (10 : Int) ≤ v by omega)]); simpa using hI))) rfl dX12_writesNumber_48
    · skip
      refine ev_ald0 24 dX12_writesNumber_23 rfl ?_
      refine tj_bipush 26 dX12_writesNumber_24 (by decide) rfl ?_
      refine ev_ild1 27 dX12_writesNumber_26 rfl ?_
      refine tj_bipush 29 dX12_writesNumber_27 (by decide) rfl ?_
      refine tj_idiv 30 dX12_writesNumber_29 (by omega) (by omega) rfl ?_
      refine tj_bipush 32 dX12_writesNumber_30 (by decide) rfl ?_
      refine tj_irem 33 dX12_writesNumber_32 (by omega) (by omega) rfl ?_
      refine tj_iadd 34 dX12_writesNumber_33 rfl ?_
      refine tmv_V1 37 14 dX12_writesNumber_34 lkv_X12_245 (tr40 hT) rfl rfl (by first | decide | omega) (Nat.le_of_ble_eq_true rfl) (c_X12_writes hT hI (by constructor <;> omega) (by first | omega | (simp only [List.length_append, List.length_cons, List.length_nil]; omega))) (fun h X1 hT hP34 => ?_)
      have hI := hP34
      refine ev_ald0 38 dX12_writesNumber_37 rfl ?_
      refine tj_bipush 40 dX12_writesNumber_38 (by decide) rfl ?_
      refine ev_ild1 41 dX12_writesNumber_40 rfl ?_
      refine tj_bipush 43 dX12_writesNumber_41 (by decide) rfl ?_
      refine tj_irem 44 dX12_writesNumber_43 (by omega) (by omega) rfl ?_
      refine tj_iadd 45 dX12_writesNumber_44 rfl ?_
      refine tmv_V1 48 14 dX12_writesNumber_45 lkv_X12_245 (tr40 hT) rfl rfl (by first | decide | omega) (Nat.le_of_ble_eq_true rfl) (c_X12_writes hT hI (by constructor <;> omega) (by first | omega | (simp only [List.length_append, List.length_cons, List.length_nil]; omega))) (fun h X1 hT hP45 => ?_)
      have hI := hP45
      exact ev_vreturn (uq_v hT (by first | (exfalso; omega) | (show WM X (l ++ numL v) _; unfold numL; (first | rw [if_pos (show (100 : Int) ≤ v by omega), show v / 100 % 10 = v / 100 by omega] | rw [if_neg (show ¬ (100 : Int) ≤ v by omega)]); (first | rw [if_pos (show (10 : Int) ≤ v by omega)] | rw [if_neg (show ¬ (10 : Int) ≤ v by omega)]); simpa using hI))) rfl dX12_writesNumber_48
set_option maxRecDepth 100000 in
set_option maxHeartbeats 4000000 in
theorem c_X12_writesCourse {g : Gt} {α : AL} {ν : Nat → Nat → Bool} {X : XM} {h : AH} {Y : XM} (hT : TR g α ν Y h) {l : List Int} (hI : WM X l Y) {O : XM} (hO : WO O) (hM00 : RM O X) {s : Nat} (hs : (s : Int) < nS O) {c : Nat} (hc : c < 20) (hll : l.length + 20 ≤ 400) : Mu g α ν M_X12_writesCourse 2 [.ref (α 40 0), .int (J (s : Int)), .int (J (c : Int))] h (none) (fun Y' => WM X (l ++ crsL O s c) Y') := by
  refine mu_of rfl rfl (ls := [some (.ref (α 40 0)), some (.int (J (s : Int))), some (.int (J (c : Int))), none, none, none]) rfl (Nat.le_of_ble_eq_true rfl) ?_
  show Ev g M_X12_writesCourse 2 0 [some (.ref (α 40 0)), some (.int (J (s : Int))), some (.int (J (c : Int))), none, none, none] [] h 0 0 (UQ g α ν (none) (fun Y' => WM X (l ++ crsL O s c) Y'))
  have hM := rm_WM hM00 hI
  have q0 := rm_nC hM
  have q1 := wo_nC hO
  have q2 := rm_nS hM
  have q3 := wo_nS hO
  have ht := wo_tri hO s c hs hc
  have hnn := numL_n (c : Int)
  have hll0 := hll
  refine ev_ald0 1 dX12_writesCourse_0 rfl ?_
  refine ev_ild2 2 dX12_writesCourse_1 rfl ?_
  refine tmv_V1 5 14 dX12_writesCourse_2 lkv_X12_249 (tr40 hT) rfl rfl (by first | decide | omega) (Nat.le_of_ble_eq_true rfl) (c_X12_writesNumber hT hI (by omega) (by first | omega | (simp only [List.length_append, List.length_cons, List.length_nil]; omega))) (fun h X1 hT hP2 => ?_)
  have hI := hP2
  have hM := rm_WM hM00 hI
  refine ev_ald0 6 dX12_writesCourse_5 rfl ?_
  refine tj_bipush 8 dX12_writesCourse_6 (by decide) rfl ?_
  refine tmv_V1 11 14 dX12_writesCourse_8 lkv_X12_245 (tr40 hT) rfl rfl (by first | decide | omega) (Nat.le_of_ble_eq_true rfl) (c_X12_writes hT hI (by constructor <;> omega) (by first | omega | (simp only [List.length_append, List.length_cons, List.length_nil]; omega))) (fun h X1 hT hP8 => ?_)
  have hI := hP8
  have hM := rm_WM hM00 hI
  refine ev_ald0 12 dX12_writesCourse_11 rfl ?_
  refine ev_getfield 15 14 13 fl_X12_34_14 (tr40 hT) rfl dX12_writesCourse_12 rfl ?_
  refine ev_ild1 16 dX12_writesCourse_15 rfl ?_
  refine tv_iald 17 (tr53 hT) (s) (by omega) (by omega) (by omega) dX12_writesCourse_16 rfl ?_
  refine ev_ild2 18 dX12_writesCourse_17 rfl ?_
  refine tc_S2 21 dX12_writesCourse_18 lks_X12_106 rfl (by first | decide | omega) (Nat.le_of_ble_eq_true rfl) (has_of (rm_mov hM _ (by omega)) (by omega) rfl : Pr g M_X12_has 0 _ h (some (.int (J (bi (mvd O _ _)))))) ?_
  refine tb_if_ne 28 24 dX12_writesCourse_21 (by decide) rfl (fun c21 => ?_) (fun c21 => ?_)
  · skip
    have m6 : O 6 s c ≠ 0 := of_decide_eq_true c21
    refine tj_iconst 29 dX12_writesCourse_28 rfl ?_
    refine ev_ist3 30 dX12_writesCourse_29 rfl (by decide) rfl ?_
    refine ev_ild3 31 dX12_writesCourse_30 rfl ?_
    refine tj_if_ne 40 34 dX12_writesCourse_31 (by decide) rfl (by first | exact TR.rng hT _ _ _ | exact R31_of _ | exact bi_R _ | (constructor <;> omega)) (fun c31 => ?_) (fun c31 => ?_)
    · exact False.elim (by omega)
    · skip
      refine ev_ald0 35 dX12_writesCourse_34 rfl ?_
      refine tj_bipush 37 dX12_writesCourse_35 (by decide) rfl ?_
      refine tmv_V1 40 14 dX12_writesCourse_37 lkv_X12_245 (tr40 hT) rfl rfl (by first | decide | omega) (Nat.le_of_ble_eq_true rfl) (c_X12_writes hT hI (by constructor <;> omega) (by first | omega | (simp only [List.length_append, List.length_cons, List.length_nil]; omega))) (fun h X1 hT hP37 => ?_)
      have hI := hP37
      have hM := rm_WM hM00 hI
      refine tj_iconst 41 dX12_writesCourse_40 rfl ?_
      refine ev_ist4 43 dX12_writesCourse_41 rfl (by decide) rfl ?_
      have lp43 : ∀ (n43 : Nat) (k : Nat) (z3 : Int) (z4 : Int) (o5 : Option Value) (h : AH) (X2 : XM), 4 - k < n43 → ((k : Int) ≤ O 9 s c) → z3 = (if 0 < k ∨ O 6 s c ≠ 0 then (0 : Int) else 1) → z4 = (k : Int) → TR g α ν X2 h → WM X (l ++ (numL c ++ ([61] ++ tl O s c k))) X2 → Ev g M_X12_writesCourse 2 43 [some (.ref (α 40 0)), some (.int (J (s : Int))), some (.int (J (c : Int))), some (.int (J z3)), some (.int (J z4)), o5] [] h 0 0 (UQ g α ν (none) (fun Y' => WM X (l ++ crsL O s c) Y')) := by
        intro n43
        induction n43 with
        | zero => intro k z3 z4 o5 h X2 hm; exact absurd hm (Nat.not_lt_zero _)
        | succ n43 ih43 =>
          intro k z3 z4 o5 h X2 hm43 hk e3 e4 hT hI
          subst e3
          subst e4
          have htn := tl_n O s c k
          have hM := rm_WM hM00 hI
          have rfi : R31 (if 0 < k ∨ O 6 s c ≠ 0 then (0 : Int) else 1) := by split <;> exact ⟨by decide, by decide⟩
          have r4 := rm_tri hM s c hs hc
          refine ev_ild4 45 dX12_writesCourse_43 rfl ?_
          refine ev_ald0 46 dX12_writesCourse_45 rfl ?_
          refine ev_getfield 49 14 15 fl_X12_40_14 (tr40 hT) rfl dX12_writesCourse_46 rfl ?_
          refine ev_ild1 50 dX12_writesCourse_49 rfl ?_
          refine ev_ild2 51 dX12_writesCourse_50 rfl ?_
          refine tc_S2 54 dX12_writesCourse_51 lks_X12_110 rfl (by first | decide | omega) (Nat.le_of_ble_eq_true rfl) c_X12_at ?_
          refine tv_iald 55 (tr55 hT) ((20 * s + c)) (by omega) (by omega) (by omega) dX12_writesCourse_54 rfl ?_
          refine tj_icmp_ge 114 58 dX12_writesCourse_55 (by decide) rfl (by first | exact TR.rng hT _ _ _ | exact R31_of _ | exact bi_R _ | (constructor <;> omega)) (by first | exact TR.rng hT _ _ _ | exact R31_of _ | exact bi_R _ | (constructor <;> omega)) (fun c55 => ?_) (fun c55 => ?_)
          · skip
            refine ev_ald0 115 dX12_writesCourse_114 rfl ?_
            refine tj_bipush 117 dX12_writesCourse_115 (by decide) rfl ?_
            refine tmv_V1 120 14 dX12_writesCourse_117 lkv_X12_245 (tr40 hT) rfl rfl (by first | decide | omega) (Nat.le_of_ble_eq_true rfl) (c_X12_writes hT hI (by constructor <;> omega) (by first | omega | (simp only [List.length_append, List.length_cons, List.length_nil]; omega))) (fun h X1 hT hP117 => ?_)
            have hI := hP117
            have hM := rm_WM hM00 hI
            exact ev_vreturn (uq_v hT (by show WM X _ _; unfold crsL; rw [show (O 9 s c).toNat = k by omega]; simpa using hI)) rfl dX12_writesCourse_120
          · skip
            have hm := wo_trd hO s c k hs hc (by omega)
            refine ev_ild3 59 dX12_writesCourse_58 rfl ?_
            refine tj_if_ne 68 62 dX12_writesCourse_59 (by decide) rfl (by first | exact TR.rng hT _ _ _ | exact R31_of _ | exact bi_R _ | (constructor <;> omega)) (fun c59 => ?_) (fun c59 => ?_)
            · skip
              have hs0n : ¬ (0 < k ∨ O 6 s c ≠ 0) := fun z => c59 (if_pos z)
              refine tj_iconst 69 dX12_writesCourse_68 rfl ?_
              refine ev_ist3 70 dX12_writesCourse_69 rfl (by decide) rfl ?_
              refine ev_ald0 71 dX12_writesCourse_70 rfl ?_
              refine ev_getfield 74 14 16 fl_X12_43_14 (tr40 hT) rfl dX12_writesCourse_71 rfl ?_
              refine tj_iconst 75 dX12_writesCourse_74 rfl ?_
              refine ev_ild1 76 dX12_writesCourse_75 rfl ?_
              refine ev_ild2 77 dX12_writesCourse_76 rfl ?_
              refine tc_S2 80 dX12_writesCourse_77 lks_X12_110 rfl (by first | decide | omega) (Nat.le_of_ble_eq_true rfl) c_X12_at ?_
              refine tj_imul 81 dX12_writesCourse_80 rfl ?_
              refine ev_ild4 83 dX12_writesCourse_81 rfl ?_
              refine tj_iadd 84 dX12_writesCourse_83 rfl ?_
              refine tv_iald 85 (tr56 hT) (((3 * (20 * s + c)) + k)) (by omega) (by omega) (by omega) dX12_writesCourse_84 rfl ?_
              rw [rm_trd hM s c k hs hc (by omega)]
              refine ev_ist5 87 dX12_writesCourse_85 rfl (by decide) rfl ?_
              refine ev_ild5 89 dX12_writesCourse_87 rfl ?_
              refine tj_iconst 90 dX12_writesCourse_89 rfl ?_
              refine tj_icmp_ne 102 93 dX12_writesCourse_90 (by decide) rfl (by first | exact TR.rng hT _ _ _ | exact R31_of _ | exact bi_R _ | (constructor <;> omega)) (by first | exact TR.rng hT _ _ _ | exact R31_of _ | exact bi_R _ | (constructor <;> omega)) (fun c90 => ?_) (fun c90 => ?_)
              · skip
                have hs2n : ¬ O 11 (20 * s + c) k = -1 := by omega
                refine ev_ald0 103 dX12_writesCourse_102 rfl ?_
                refine ev_ild5 105 dX12_writesCourse_103 rfl ?_
                refine tmv_V1 108 14 dX12_writesCourse_105 lkv_X12_249 (tr40 hT) rfl rfl (by first | decide | omega) (Nat.le_of_ble_eq_true rfl) (c_X12_writesNumber hT hI (by omega) (by first | omega | (simp only [List.length_append, List.length_cons, List.length_nil]; omega))) (fun h X1 hT hP105 => ?_)
                have hI := hP105
                have hM := rm_WM hM00 hI
                refine tj_inc4 111 dX12_writesCourse_108 rfl (by decide) rfl ?_
                refine ev_goto 43 dX12_writesCourse_111 (by decide) ?_
                exact ih43 (k + 1) _ _ _ _ _ (by omega) (by first | omega | assumption | omega) (by first | rfl | omega | (first | exact (if_pos (Or.inr m6)).symm | exact (if_neg (fun z => z.elim (Nat.lt_irrefl 0) m60)).symm | exact (if_pos (Or.inl (Nat.succ_pos k))).symm)) (by first | rfl | omega | (first | exact (if_pos (Or.inr m6)).symm | exact (if_neg (fun z => z.elim (Nat.lt_irrefl 0) m60)).symm | exact (if_pos (Or.inl (Nat.succ_pos k))).symm)) hT (by first | assumption | (first | (unfold tl; rw [if_pos m6]; simpa using hI) | (unfold tl; rw [if_neg m60]; simpa using hI) | (rw [tl]; (first | rw [if_pos hs1] | rw [if_neg hs0n]); (first | rw [if_pos hs2] | rw [if_neg hs2n]); simpa using hI)))
              · skip
                have hs2 : O 11 (20 * s + c) k = -1 := by omega
                refine ev_ald0 94 dX12_writesCourse_93 rfl ?_
                refine tj_bipush 96 dX12_writesCourse_94 (by decide) rfl ?_
                refine tmv_V1 99 14 dX12_writesCourse_96 lkv_X12_245 (tr40 hT) rfl rfl (by first | decide | omega) (Nat.le_of_ble_eq_true rfl) (c_X12_writes hT hI (by constructor <;> omega) (by first | omega | (simp only [List.length_append, List.length_cons, List.length_nil]; omega))) (fun h X1 hT hP96 => ?_)
                have hI := hP96
                have hM := rm_WM hM00 hI
                refine ev_goto 108 dX12_writesCourse_99 (by decide) ?_
                refine tj_inc4 111 dX12_writesCourse_108 rfl (by decide) rfl ?_
                refine ev_goto 43 dX12_writesCourse_111 (by decide) ?_
                exact ih43 (k + 1) _ _ _ _ _ (by omega) (by first | omega | assumption | omega) (by first | rfl | omega | (first | exact (if_pos (Or.inr m6)).symm | exact (if_neg (fun z => z.elim (Nat.lt_irrefl 0) m60)).symm | exact (if_pos (Or.inl (Nat.succ_pos k))).symm)) (by first | rfl | omega | (first | exact (if_pos (Or.inr m6)).symm | exact (if_neg (fun z => z.elim (Nat.lt_irrefl 0) m60)).symm | exact (if_pos (Or.inl (Nat.succ_pos k))).symm)) hT (by first | assumption | (first | (unfold tl; rw [if_pos m6]; simpa using hI) | (unfold tl; rw [if_neg m60]; simpa using hI) | (rw [tl]; (first | rw [if_pos hs1] | rw [if_neg hs0n]); (first | rw [if_pos hs2] | rw [if_neg hs2n]); simpa using hI)))
            · skip
              have hs1 : 0 < k ∨ O 6 s c ≠ 0 := Classical.byContradiction fun z => by rw [if_neg z] at c59; cases c59
              refine ev_ald0 63 dX12_writesCourse_62 rfl ?_
              refine tj_bipush 65 dX12_writesCourse_63 (by decide) rfl ?_
              refine tmv_V1 68 14 dX12_writesCourse_65 lkv_X12_245 (tr40 hT) rfl rfl (by first | decide | omega) (Nat.le_of_ble_eq_true rfl) (c_X12_writes hT hI (by constructor <;> omega) (by first | omega | (simp only [List.length_append, List.length_cons, List.length_nil]; omega))) (fun h X1 hT hP65 => ?_)
              have hI := hP65
              have hM := rm_WM hM00 hI
              refine tj_iconst 69 dX12_writesCourse_68 rfl ?_
              refine ev_ist3 70 dX12_writesCourse_69 rfl (by decide) rfl ?_
              refine ev_ald0 71 dX12_writesCourse_70 rfl ?_
              refine ev_getfield 74 14 16 fl_X12_43_14 (tr40 hT) rfl dX12_writesCourse_71 rfl ?_
              refine tj_iconst 75 dX12_writesCourse_74 rfl ?_
              refine ev_ild1 76 dX12_writesCourse_75 rfl ?_
              refine ev_ild2 77 dX12_writesCourse_76 rfl ?_
              refine tc_S2 80 dX12_writesCourse_77 lks_X12_110 rfl (by first | decide | omega) (Nat.le_of_ble_eq_true rfl) c_X12_at ?_
              refine tj_imul 81 dX12_writesCourse_80 rfl ?_
              refine ev_ild4 83 dX12_writesCourse_81 rfl ?_
              refine tj_iadd 84 dX12_writesCourse_83 rfl ?_
              refine tv_iald 85 (tr56 hT) (((3 * (20 * s + c)) + k)) (by omega) (by omega) (by omega) dX12_writesCourse_84 rfl ?_
              rw [rm_trd hM s c k hs hc (by omega)]
              refine ev_ist5 87 dX12_writesCourse_85 rfl (by decide) rfl ?_
              refine ev_ild5 89 dX12_writesCourse_87 rfl ?_
              refine tj_iconst 90 dX12_writesCourse_89 rfl ?_
              refine tj_icmp_ne 102 93 dX12_writesCourse_90 (by decide) rfl (by first | exact TR.rng hT _ _ _ | exact R31_of _ | exact bi_R _ | (constructor <;> omega)) (by first | exact TR.rng hT _ _ _ | exact R31_of _ | exact bi_R _ | (constructor <;> omega)) (fun c90 => ?_) (fun c90 => ?_)
              · skip
                have hs2n : ¬ O 11 (20 * s + c) k = -1 := by omega
                refine ev_ald0 103 dX12_writesCourse_102 rfl ?_
                refine ev_ild5 105 dX12_writesCourse_103 rfl ?_
                refine tmv_V1 108 14 dX12_writesCourse_105 lkv_X12_249 (tr40 hT) rfl rfl (by first | decide | omega) (Nat.le_of_ble_eq_true rfl) (c_X12_writesNumber hT hI (by omega) (by first | omega | (simp only [List.length_append, List.length_cons, List.length_nil]; omega))) (fun h X1 hT hP105 => ?_)
                have hI := hP105
                have hM := rm_WM hM00 hI
                refine tj_inc4 111 dX12_writesCourse_108 rfl (by decide) rfl ?_
                refine ev_goto 43 dX12_writesCourse_111 (by decide) ?_
                exact ih43 (k + 1) _ _ _ _ _ (by omega) (by first | omega | assumption | omega) (by first | rfl | omega | (first | exact (if_pos (Or.inr m6)).symm | exact (if_neg (fun z => z.elim (Nat.lt_irrefl 0) m60)).symm | exact (if_pos (Or.inl (Nat.succ_pos k))).symm)) (by first | rfl | omega | (first | exact (if_pos (Or.inr m6)).symm | exact (if_neg (fun z => z.elim (Nat.lt_irrefl 0) m60)).symm | exact (if_pos (Or.inl (Nat.succ_pos k))).symm)) hT (by first | assumption | (first | (unfold tl; rw [if_pos m6]; simpa using hI) | (unfold tl; rw [if_neg m60]; simpa using hI) | (rw [tl]; (first | rw [if_pos hs1] | rw [if_neg hs0n]); (first | rw [if_pos hs2] | rw [if_neg hs2n]); simpa using hI)))
              · skip
                have hs2 : O 11 (20 * s + c) k = -1 := by omega
                refine ev_ald0 94 dX12_writesCourse_93 rfl ?_
                refine tj_bipush 96 dX12_writesCourse_94 (by decide) rfl ?_
                refine tmv_V1 99 14 dX12_writesCourse_96 lkv_X12_245 (tr40 hT) rfl rfl (by first | decide | omega) (Nat.le_of_ble_eq_true rfl) (c_X12_writes hT hI (by constructor <;> omega) (by first | omega | (simp only [List.length_append, List.length_cons, List.length_nil]; omega))) (fun h X1 hT hP96 => ?_)
                have hI := hP96
                have hM := rm_WM hM00 hI
                refine ev_goto 108 dX12_writesCourse_99 (by decide) ?_
                refine tj_inc4 111 dX12_writesCourse_108 rfl (by decide) rfl ?_
                refine ev_goto 43 dX12_writesCourse_111 (by decide) ?_
                exact ih43 (k + 1) _ _ _ _ _ (by omega) (by first | omega | assumption | omega) (by first | rfl | omega | (first | exact (if_pos (Or.inr m6)).symm | exact (if_neg (fun z => z.elim (Nat.lt_irrefl 0) m60)).symm | exact (if_pos (Or.inl (Nat.succ_pos k))).symm)) (by first | rfl | omega | (first | exact (if_pos (Or.inr m6)).symm | exact (if_neg (fun z => z.elim (Nat.lt_irrefl 0) m60)).symm | exact (if_pos (Or.inl (Nat.succ_pos k))).symm)) hT (by first | assumption | (first | (unfold tl; rw [if_pos m6]; simpa using hI) | (unfold tl; rw [if_neg m60]; simpa using hI) | (rw [tl]; (first | rw [if_pos hs1] | rw [if_neg hs0n]); (first | rw [if_pos hs2] | rw [if_neg hs2n]); simpa using hI)))
      exact lp43 _ (0) _ _ _ _ _ (Nat.lt_succ_self _) (by first | omega | assumption | omega) (by first | rfl | omega | (first | exact (if_pos (Or.inr m6)).symm | exact (if_neg (fun z => z.elim (Nat.lt_irrefl 0) m60)).symm | exact (if_pos (Or.inl (Nat.succ_pos k))).symm)) (by first | rfl | omega | (first | exact (if_pos (Or.inr m6)).symm | exact (if_neg (fun z => z.elim (Nat.lt_irrefl 0) m60)).symm | exact (if_pos (Or.inl (Nat.succ_pos k))).symm)) hT (by first | assumption | (first | (unfold tl; rw [if_pos m6]; simpa using hI) | (unfold tl; rw [if_neg m60]; simpa using hI) | (rw [tl]; (first | rw [if_pos hs1] | rw [if_neg hs0n]); (first | rw [if_pos hs2] | rw [if_neg hs2n]); simpa using hI)))
  · skip
    have m60 : ¬ O 6 s c ≠ 0 := of_decide_eq_false c21
    refine tj_iconst 25 dX12_writesCourse_24 rfl ?_
    refine ev_goto 29 dX12_writesCourse_25 (by decide) ?_
    refine ev_ist3 30 dX12_writesCourse_29 rfl (by decide) rfl ?_
    refine ev_ild3 31 dX12_writesCourse_30 rfl ?_
    refine tj_if_ne 40 34 dX12_writesCourse_31 (by decide) rfl (by first | exact TR.rng hT _ _ _ | exact R31_of _ | exact bi_R _ | (constructor <;> omega)) (fun c31 => ?_) (fun c31 => ?_)
    · skip
      refine tj_iconst 41 dX12_writesCourse_40 rfl ?_
      refine ev_ist4 43 dX12_writesCourse_41 rfl (by decide) rfl ?_
      have lp43 : ∀ (n43 : Nat) (k : Nat) (z3 : Int) (z4 : Int) (o5 : Option Value) (h : AH) (X2 : XM), 4 - k < n43 → ((k : Int) ≤ O 9 s c) → z3 = (if 0 < k ∨ O 6 s c ≠ 0 then (0 : Int) else 1) → z4 = (k : Int) → TR g α ν X2 h → WM X (l ++ (numL c ++ ([61] ++ tl O s c k))) X2 → Ev g M_X12_writesCourse 2 43 [some (.ref (α 40 0)), some (.int (J (s : Int))), some (.int (J (c : Int))), some (.int (J z3)), some (.int (J z4)), o5] [] h 0 0 (UQ g α ν (none) (fun Y' => WM X (l ++ crsL O s c) Y')) := by
        intro n43
        induction n43 with
        | zero => intro k z3 z4 o5 h X2 hm; exact absurd hm (Nat.not_lt_zero _)
        | succ n43 ih43 =>
          intro k z3 z4 o5 h X2 hm43 hk e3 e4 hT hI
          subst e3
          subst e4
          have htn := tl_n O s c k
          have hM := rm_WM hM00 hI
          have rfi : R31 (if 0 < k ∨ O 6 s c ≠ 0 then (0 : Int) else 1) := by split <;> exact ⟨by decide, by decide⟩
          have r4 := rm_tri hM s c hs hc
          refine ev_ild4 45 dX12_writesCourse_43 rfl ?_
          refine ev_ald0 46 dX12_writesCourse_45 rfl ?_
          refine ev_getfield 49 14 15 fl_X12_40_14 (tr40 hT) rfl dX12_writesCourse_46 rfl ?_
          refine ev_ild1 50 dX12_writesCourse_49 rfl ?_
          refine ev_ild2 51 dX12_writesCourse_50 rfl ?_
          refine tc_S2 54 dX12_writesCourse_51 lks_X12_110 rfl (by first | decide | omega) (Nat.le_of_ble_eq_true rfl) c_X12_at ?_
          refine tv_iald 55 (tr55 hT) ((20 * s + c)) (by omega) (by omega) (by omega) dX12_writesCourse_54 rfl ?_
          refine tj_icmp_ge 114 58 dX12_writesCourse_55 (by decide) rfl (by first | exact TR.rng hT _ _ _ | exact R31_of _ | exact bi_R _ | (constructor <;> omega)) (by first | exact TR.rng hT _ _ _ | exact R31_of _ | exact bi_R _ | (constructor <;> omega)) (fun c55 => ?_) (fun c55 => ?_)
          · skip
            refine ev_ald0 115 dX12_writesCourse_114 rfl ?_
            refine tj_bipush 117 dX12_writesCourse_115 (by decide) rfl ?_
            refine tmv_V1 120 14 dX12_writesCourse_117 lkv_X12_245 (tr40 hT) rfl rfl (by first | decide | omega) (Nat.le_of_ble_eq_true rfl) (c_X12_writes hT hI (by constructor <;> omega) (by first | omega | (simp only [List.length_append, List.length_cons, List.length_nil]; omega))) (fun h X1 hT hP117 => ?_)
            have hI := hP117
            have hM := rm_WM hM00 hI
            exact ev_vreturn (uq_v hT (by show WM X _ _; unfold crsL; rw [show (O 9 s c).toNat = k by omega]; simpa using hI)) rfl dX12_writesCourse_120
          · skip
            have hm := wo_trd hO s c k hs hc (by omega)
            refine ev_ild3 59 dX12_writesCourse_58 rfl ?_
            refine tj_if_ne 68 62 dX12_writesCourse_59 (by decide) rfl (by first | exact TR.rng hT _ _ _ | exact R31_of _ | exact bi_R _ | (constructor <;> omega)) (fun c59 => ?_) (fun c59 => ?_)
            · skip
              have hs0n : ¬ (0 < k ∨ O 6 s c ≠ 0) := fun z => c59 (if_pos z)
              refine tj_iconst 69 dX12_writesCourse_68 rfl ?_
              refine ev_ist3 70 dX12_writesCourse_69 rfl (by decide) rfl ?_
              refine ev_ald0 71 dX12_writesCourse_70 rfl ?_
              refine ev_getfield 74 14 16 fl_X12_43_14 (tr40 hT) rfl dX12_writesCourse_71 rfl ?_
              refine tj_iconst 75 dX12_writesCourse_74 rfl ?_
              refine ev_ild1 76 dX12_writesCourse_75 rfl ?_
              refine ev_ild2 77 dX12_writesCourse_76 rfl ?_
              refine tc_S2 80 dX12_writesCourse_77 lks_X12_110 rfl (by first | decide | omega) (Nat.le_of_ble_eq_true rfl) c_X12_at ?_
              refine tj_imul 81 dX12_writesCourse_80 rfl ?_
              refine ev_ild4 83 dX12_writesCourse_81 rfl ?_
              refine tj_iadd 84 dX12_writesCourse_83 rfl ?_
              refine tv_iald 85 (tr56 hT) (((3 * (20 * s + c)) + k)) (by omega) (by omega) (by omega) dX12_writesCourse_84 rfl ?_
              rw [rm_trd hM s c k hs hc (by omega)]
              refine ev_ist5 87 dX12_writesCourse_85 rfl (by decide) rfl ?_
              refine ev_ild5 89 dX12_writesCourse_87 rfl ?_
              refine tj_iconst 90 dX12_writesCourse_89 rfl ?_
              refine tj_icmp_ne 102 93 dX12_writesCourse_90 (by decide) rfl (by first | exact TR.rng hT _ _ _ | exact R31_of _ | exact bi_R _ | (constructor <;> omega)) (by first | exact TR.rng hT _ _ _ | exact R31_of _ | exact bi_R _ | (constructor <;> omega)) (fun c90 => ?_) (fun c90 => ?_)
              · skip
                have hs2n : ¬ O 11 (20 * s + c) k = -1 := by omega
                refine ev_ald0 103 dX12_writesCourse_102 rfl ?_
                refine ev_ild5 105 dX12_writesCourse_103 rfl ?_
                refine tmv_V1 108 14 dX12_writesCourse_105 lkv_X12_249 (tr40 hT) rfl rfl (by first | decide | omega) (Nat.le_of_ble_eq_true rfl) (c_X12_writesNumber hT hI (by omega) (by first | omega | (simp only [List.length_append, List.length_cons, List.length_nil]; omega))) (fun h X1 hT hP105 => ?_)
                have hI := hP105
                have hM := rm_WM hM00 hI
                refine tj_inc4 111 dX12_writesCourse_108 rfl (by decide) rfl ?_
                refine ev_goto 43 dX12_writesCourse_111 (by decide) ?_
                exact ih43 (k + 1) _ _ _ _ _ (by omega) (by first | omega | assumption | omega) (by first | rfl | omega | (first | exact (if_pos (Or.inr m6)).symm | exact (if_neg (fun z => z.elim (Nat.lt_irrefl 0) m60)).symm | exact (if_pos (Or.inl (Nat.succ_pos k))).symm)) (by first | rfl | omega | (first | exact (if_pos (Or.inr m6)).symm | exact (if_neg (fun z => z.elim (Nat.lt_irrefl 0) m60)).symm | exact (if_pos (Or.inl (Nat.succ_pos k))).symm)) hT (by first | assumption | (first | (unfold tl; rw [if_pos m6]; simpa using hI) | (unfold tl; rw [if_neg m60]; simpa using hI) | (rw [tl]; (first | rw [if_pos hs1] | rw [if_neg hs0n]); (first | rw [if_pos hs2] | rw [if_neg hs2n]); simpa using hI)))
              · skip
                have hs2 : O 11 (20 * s + c) k = -1 := by omega
                refine ev_ald0 94 dX12_writesCourse_93 rfl ?_
                refine tj_bipush 96 dX12_writesCourse_94 (by decide) rfl ?_
                refine tmv_V1 99 14 dX12_writesCourse_96 lkv_X12_245 (tr40 hT) rfl rfl (by first | decide | omega) (Nat.le_of_ble_eq_true rfl) (c_X12_writes hT hI (by constructor <;> omega) (by first | omega | (simp only [List.length_append, List.length_cons, List.length_nil]; omega))) (fun h X1 hT hP96 => ?_)
                have hI := hP96
                have hM := rm_WM hM00 hI
                refine ev_goto 108 dX12_writesCourse_99 (by decide) ?_
                refine tj_inc4 111 dX12_writesCourse_108 rfl (by decide) rfl ?_
                refine ev_goto 43 dX12_writesCourse_111 (by decide) ?_
                exact ih43 (k + 1) _ _ _ _ _ (by omega) (by first | omega | assumption | omega) (by first | rfl | omega | (first | exact (if_pos (Or.inr m6)).symm | exact (if_neg (fun z => z.elim (Nat.lt_irrefl 0) m60)).symm | exact (if_pos (Or.inl (Nat.succ_pos k))).symm)) (by first | rfl | omega | (first | exact (if_pos (Or.inr m6)).symm | exact (if_neg (fun z => z.elim (Nat.lt_irrefl 0) m60)).symm | exact (if_pos (Or.inl (Nat.succ_pos k))).symm)) hT (by first | assumption | (first | (unfold tl; rw [if_pos m6]; simpa using hI) | (unfold tl; rw [if_neg m60]; simpa using hI) | (rw [tl]; (first | rw [if_pos hs1] | rw [if_neg hs0n]); (first | rw [if_pos hs2] | rw [if_neg hs2n]); simpa using hI)))
            · skip
              have hs1 : 0 < k ∨ O 6 s c ≠ 0 := Classical.byContradiction fun z => by rw [if_neg z] at c59; cases c59
              refine ev_ald0 63 dX12_writesCourse_62 rfl ?_
              refine tj_bipush 65 dX12_writesCourse_63 (by decide) rfl ?_
              refine tmv_V1 68 14 dX12_writesCourse_65 lkv_X12_245 (tr40 hT) rfl rfl (by first | decide | omega) (Nat.le_of_ble_eq_true rfl) (c_X12_writes hT hI (by constructor <;> omega) (by first | omega | (simp only [List.length_append, List.length_cons, List.length_nil]; omega))) (fun h X1 hT hP65 => ?_)
              have hI := hP65
              have hM := rm_WM hM00 hI
              refine tj_iconst 69 dX12_writesCourse_68 rfl ?_
              refine ev_ist3 70 dX12_writesCourse_69 rfl (by decide) rfl ?_
              refine ev_ald0 71 dX12_writesCourse_70 rfl ?_
              refine ev_getfield 74 14 16 fl_X12_43_14 (tr40 hT) rfl dX12_writesCourse_71 rfl ?_
              refine tj_iconst 75 dX12_writesCourse_74 rfl ?_
              refine ev_ild1 76 dX12_writesCourse_75 rfl ?_
              refine ev_ild2 77 dX12_writesCourse_76 rfl ?_
              refine tc_S2 80 dX12_writesCourse_77 lks_X12_110 rfl (by first | decide | omega) (Nat.le_of_ble_eq_true rfl) c_X12_at ?_
              refine tj_imul 81 dX12_writesCourse_80 rfl ?_
              refine ev_ild4 83 dX12_writesCourse_81 rfl ?_
              refine tj_iadd 84 dX12_writesCourse_83 rfl ?_
              refine tv_iald 85 (tr56 hT) (((3 * (20 * s + c)) + k)) (by omega) (by omega) (by omega) dX12_writesCourse_84 rfl ?_
              rw [rm_trd hM s c k hs hc (by omega)]
              refine ev_ist5 87 dX12_writesCourse_85 rfl (by decide) rfl ?_
              refine ev_ild5 89 dX12_writesCourse_87 rfl ?_
              refine tj_iconst 90 dX12_writesCourse_89 rfl ?_
              refine tj_icmp_ne 102 93 dX12_writesCourse_90 (by decide) rfl (by first | exact TR.rng hT _ _ _ | exact R31_of _ | exact bi_R _ | (constructor <;> omega)) (by first | exact TR.rng hT _ _ _ | exact R31_of _ | exact bi_R _ | (constructor <;> omega)) (fun c90 => ?_) (fun c90 => ?_)
              · skip
                have hs2n : ¬ O 11 (20 * s + c) k = -1 := by omega
                refine ev_ald0 103 dX12_writesCourse_102 rfl ?_
                refine ev_ild5 105 dX12_writesCourse_103 rfl ?_
                refine tmv_V1 108 14 dX12_writesCourse_105 lkv_X12_249 (tr40 hT) rfl rfl (by first | decide | omega) (Nat.le_of_ble_eq_true rfl) (c_X12_writesNumber hT hI (by omega) (by first | omega | (simp only [List.length_append, List.length_cons, List.length_nil]; omega))) (fun h X1 hT hP105 => ?_)
                have hI := hP105
                have hM := rm_WM hM00 hI
                refine tj_inc4 111 dX12_writesCourse_108 rfl (by decide) rfl ?_
                refine ev_goto 43 dX12_writesCourse_111 (by decide) ?_
                exact ih43 (k + 1) _ _ _ _ _ (by omega) (by first | omega | assumption | omega) (by first | rfl | omega | (first | exact (if_pos (Or.inr m6)).symm | exact (if_neg (fun z => z.elim (Nat.lt_irrefl 0) m60)).symm | exact (if_pos (Or.inl (Nat.succ_pos k))).symm)) (by first | rfl | omega | (first | exact (if_pos (Or.inr m6)).symm | exact (if_neg (fun z => z.elim (Nat.lt_irrefl 0) m60)).symm | exact (if_pos (Or.inl (Nat.succ_pos k))).symm)) hT (by first | assumption | (first | (unfold tl; rw [if_pos m6]; simpa using hI) | (unfold tl; rw [if_neg m60]; simpa using hI) | (rw [tl]; (first | rw [if_pos hs1] | rw [if_neg hs0n]); (first | rw [if_pos hs2] | rw [if_neg hs2n]); simpa using hI)))
              · skip
                have hs2 : O 11 (20 * s + c) k = -1 := by omega
                refine ev_ald0 94 dX12_writesCourse_93 rfl ?_
                refine tj_bipush 96 dX12_writesCourse_94 (by decide) rfl ?_
                refine tmv_V1 99 14 dX12_writesCourse_96 lkv_X12_245 (tr40 hT) rfl rfl (by first | decide | omega) (Nat.le_of_ble_eq_true rfl) (c_X12_writes hT hI (by constructor <;> omega) (by first | omega | (simp only [List.length_append, List.length_cons, List.length_nil]; omega))) (fun h X1 hT hP96 => ?_)
                have hI := hP96
                have hM := rm_WM hM00 hI
                refine ev_goto 108 dX12_writesCourse_99 (by decide) ?_
                refine tj_inc4 111 dX12_writesCourse_108 rfl (by decide) rfl ?_
                refine ev_goto 43 dX12_writesCourse_111 (by decide) ?_
                exact ih43 (k + 1) _ _ _ _ _ (by omega) (by first | omega | assumption | omega) (by first | rfl | omega | (first | exact (if_pos (Or.inr m6)).symm | exact (if_neg (fun z => z.elim (Nat.lt_irrefl 0) m60)).symm | exact (if_pos (Or.inl (Nat.succ_pos k))).symm)) (by first | rfl | omega | (first | exact (if_pos (Or.inr m6)).symm | exact (if_neg (fun z => z.elim (Nat.lt_irrefl 0) m60)).symm | exact (if_pos (Or.inl (Nat.succ_pos k))).symm)) hT (by first | assumption | (first | (unfold tl; rw [if_pos m6]; simpa using hI) | (unfold tl; rw [if_neg m60]; simpa using hI) | (rw [tl]; (first | rw [if_pos hs1] | rw [if_neg hs0n]); (first | rw [if_pos hs2] | rw [if_neg hs2n]); simpa using hI)))
      exact lp43 _ (0) _ _ _ _ _ (Nat.lt_succ_self _) (by first | omega | assumption | omega) (by first | rfl | omega | (first | exact (if_pos (Or.inr m6)).symm | exact (if_neg (fun z => z.elim (Nat.lt_irrefl 0) m60)).symm | exact (if_pos (Or.inl (Nat.succ_pos k))).symm)) (by first | rfl | omega | (first | exact (if_pos (Or.inr m6)).symm | exact (if_neg (fun z => z.elim (Nat.lt_irrefl 0) m60)).symm | exact (if_pos (Or.inl (Nat.succ_pos k))).symm)) hT (by first | assumption | (first | (unfold tl; rw [if_pos m6]; simpa using hI) | (unfold tl; rw [if_neg m60]; simpa using hI) | (rw [tl]; (first | rw [if_pos hs1] | rw [if_neg hs0n]); (first | rw [if_pos hs2] | rw [if_neg hs2n]); simpa using hI)))
    · exact False.elim (by omega)
set_option maxRecDepth 100000 in
set_option maxHeartbeats 4000000 in
theorem c_X12_writesAll {g : Gt} {α : AL} {ν : Nat → Nat → Bool} {X : XM} {h : AH} (hT : TR g α ν X h) {O : XM} (hO : WO O) (hM00 : RM O X) {s : Nat} (hs : (s : Int) < nS O) : Mu g α ν M_X12_writesAll 3 [.ref (α 40 0), .int (J (s : Int))] h (none) (fun Y' => WM X (allL O s (nC O).toNat) Y') := by
  refine mu_of rfl rfl (ls := [some (.ref (α 40 0)), some (.int (J (s : Int))), none]) rfl (Nat.le_of_ble_eq_true rfl) ?_
  show Ev g M_X12_writesAll 3 0 [some (.ref (α 40 0)), some (.int (J (s : Int))), none] [] h 0 0 (UQ g α ν (none) (fun Y' => WM X (allL O s (nC O).toNat) Y'))
  have q1 := wo_nC hO
  have q3 := wo_nS hO
  refine ev_ald0 1 dX12_writesAll_0 rfl ?_
  refine tj_iconst 2 dX12_writesAll_1 rfl ?_
  refine tv_puti 5 32 .int fl_X12_242_14 fp_14_32 hT (tv40 hT) (fun _ => rfl) rfl (Nat.le_of_ble_eq_true rfl) rfl rfl (by first | exact TR.rng hT _ _ _ | exact R31_of _ | exact bi_R _ | (constructor <;> omega)) dX12_writesAll_2 rfl (fun h hT => ?_)
  refine tj_iconst 6 dX12_writesAll_5 rfl ?_
  refine ev_ist2 7 dX12_writesAll_6 rfl (by decide) rfl ?_
  have lp7 : ∀ (n7 : Nat) (c : Nat) (z2 : Int)  (h : AH) (X2 : XM), 21 - c < n7 → ((c : Int) ≤ nC O) → z2 = (c : Int) → TR g α ν X2 h → WM X (allL O s c) X2 → Ev g M_X12_writesAll 3 7 [some (.ref (α 40 0)), some (.int (J (s : Int))), some (.int (J z2))] [] h 0 0 (UQ g α ν (none) (fun Y' => WM X (allL O s (nC O).toNat) Y')) := by
    intro n7
    induction n7 with
    | zero => intro c z2 h X2 hm; exact absurd hm (Nat.not_lt_zero _)
    | succ n7 ih7 =>
      intro c z2 h X2 hm7 hc e2 hT hI
      subst e2
      have han := allL_n hO hs c hc
      have hM := rm_WM hM00 hI
      have q0 := rm_nC hM
      refine ev_ild2 8 dX12_writesAll_7 rfl ?_
      refine ev_ald0 9 dX12_writesAll_8 rfl ?_
      refine ev_getfield 12 14 3 fl_X12_93_14 (tr40 hT) rfl dX12_writesAll_9 rfl ?_
      refine tj_icmp_ge 53 15 dX12_writesAll_12 (by decide) rfl (by first | exact TR.rng hT _ _ _ | exact R31_of _ | exact bi_R _ | (constructor <;> omega)) (by first | exact TR.rng hT _ _ _ | exact R31_of _ | exact bi_R _ | (constructor <;> omega)) (fun c12 => ?_) (fun c12 => ?_)
      · skip
        exact ev_vreturn (uq_v hT (by show WM X _ _; rw [show (nC O).toNat = c by omega]; exact hI)) rfl dX12_writesAll_53
      · skip
        have r4 := rm_tri hM s c hs (by omega)
        have ht := wo_tri hO s c hs (by omega)
        refine ev_ald0 16 dX12_writesAll_15 rfl ?_
        refine ev_getfield 19 14 13 fl_X12_34_14 (tr40 hT) rfl dX12_writesAll_16 rfl ?_
        refine ev_ild1 20 dX12_writesAll_19 rfl ?_
        refine tv_iald 21 (tr53 hT) (s) (by omega) (by omega) (by omega) dX12_writesAll_20 rfl ?_
        refine ev_ild2 22 dX12_writesAll_21 rfl ?_
        refine tc_S2 25 dX12_writesAll_22 lks_X12_106 rfl (by first | decide | omega) (Nat.le_of_ble_eq_true rfl) (has_of (rm_mov hM _ (by omega)) (by omega) rfl : Pr g M_X12_has 0 _ h (some (.int (J (bi (mvd O _ _)))))) ?_
        refine tb_if_ne 41 28 dX12_writesAll_25 (by decide) rfl (fun c25 => ?_) (fun c25 => ?_)
        · skip
          have hyes : O 6 s c ≠ 0 ∨ 0 < O 9 s c := Or.inl (of_decide_eq_true c25)
          refine ev_ald0 42 dX12_writesAll_41 rfl ?_
          refine ev_ild1 43 dX12_writesAll_42 rfl ?_
          refine ev_ild2 44 dX12_writesAll_43 rfl ?_
          refine tmv_V2 47 14 dX12_writesAll_44 lkv_X12_252 (tr40 hT) rfl rfl (by first | decide | omega) (Nat.le_of_ble_eq_true rfl) (c_X12_writesCourse hT hI hO hM00 hs (by omega) (by first | omega | (simp only [List.length_append, List.length_cons, List.length_nil]; omega))) (fun h X1 hT hP44 => ?_)
          have hI := hP44
          refine tj_inc2 50 dX12_writesAll_47 rfl (by decide) rfl ?_
          refine ev_goto 7 dX12_writesAll_50 (by decide) ?_
          exact ih7 (c + 1) _ _ _ (by omega) (by first | omega | assumption | omega) (by first | rfl | omega | (omega)) hT (by first | assumption | (first | exact WM_0 X | (rw [allL]; first | (rw [if_pos hyes]; exact hI) | (rw [if_neg hno, List.append_nil]; exact hI))))
        · skip
          refine ev_ald0 29 dX12_writesAll_28 rfl ?_
          refine ev_getfield 32 14 15 fl_X12_40_14 (tr40 hT) rfl dX12_writesAll_29 rfl ?_
          refine ev_ild1 33 dX12_writesAll_32 rfl ?_
          refine ev_ild2 34 dX12_writesAll_33 rfl ?_
          refine tc_S2 37 dX12_writesAll_34 lks_X12_110 rfl (by first | decide | omega) (Nat.le_of_ble_eq_true rfl) c_X12_at ?_
          refine tv_iald 38 (tr55 hT) ((20 * s + c)) (by omega) (by omega) (by omega) dX12_writesAll_37 rfl ?_
          refine tj_if_le 47 41 dX12_writesAll_38 (by decide) rfl (by first | exact TR.rng hT _ _ _ | exact R31_of _ | exact bi_R _ | (constructor <;> omega)) (fun c38 => ?_) (fun c38 => ?_)
          · skip
            have hno : ¬ (O 6 s c ≠ 0 ∨ 0 < O 9 s c) := fun z => z.elim (of_decide_eq_false c25) (by omega)
            refine tj_inc2 50 dX12_writesAll_47 rfl (by decide) rfl ?_
            refine ev_goto 7 dX12_writesAll_50 (by decide) ?_
            exact ih7 (c + 1) _ _ _ (by omega) (by first | omega | assumption | omega) (by first | rfl | omega | (omega)) hT (by first | assumption | (first | exact WM_0 X | (rw [allL]; first | (rw [if_pos hyes]; exact hI) | (rw [if_neg hno, List.append_nil]; exact hI))))
          · skip
            have hyes : O 6 s c ≠ 0 ∨ 0 < O 9 s c := Or.inr (by omega)
            refine ev_ald0 42 dX12_writesAll_41 rfl ?_
            refine ev_ild1 43 dX12_writesAll_42 rfl ?_
            refine ev_ild2 44 dX12_writesAll_43 rfl ?_
            refine tmv_V2 47 14 dX12_writesAll_44 lkv_X12_252 (tr40 hT) rfl rfl (by first | decide | omega) (Nat.le_of_ble_eq_true rfl) (c_X12_writesCourse hT hI hO hM00 hs (by omega) (by first | omega | (simp only [List.length_append, List.length_cons, List.length_nil]; omega))) (fun h X1 hT hP44 => ?_)
            have hI := hP44
            refine tj_inc2 50 dX12_writesAll_47 rfl (by decide) rfl ?_
            refine ev_goto 7 dX12_writesAll_50 (by decide) ?_
            exact ih7 (c + 1) _ _ _ (by omega) (by first | omega | assumption | omega) (by first | rfl | omega | (omega)) hT (by first | assumption | (first | exact WM_0 X | (rw [allL]; first | (rw [if_pos hyes]; exact hI) | (rw [if_neg hno, List.append_nil]; exact hI))))
  exact lp7 _ (0) _ _ _ (Nat.lt_succ_self _) (by first | omega | assumption | omega) (by first | rfl | omega | (omega)) hT (by first | assumption | (first | exact WM_0 X | (rw [allL]; first | (rw [if_pos hyes]; exact hI) | (rw [if_neg hno, List.append_nil]; exact hI))))
set_option maxRecDepth 100000 in
set_option maxHeartbeats 4000000 in
theorem c_X12_transcriptLength_b1 {g : Gt} {α : AL} {ν : Nat → Nat → Bool} {X : XM} {h : AH} (hT : TR g α ν X h) {O : XM} (hO : WO O) (hM : RM O X) {b : Int} (hb : R31 b) (hn : ¬ (0 ≤ b ∧ b < nS O)) : Mu g α ν M_X12_transcriptLength 27 [.ref (α 40 0), .int (J b)] h (some (.int (J 0))) (fun X' => X' = xs X 40 0 0 1) := by
  refine mu_of rfl rfl (ls := [some (.ref (α 40 0)), some (.int (J b))]) rfl (Nat.le_of_ble_eq_true rfl) ?_
  show Ev g M_X12_transcriptLength 27 0 [some (.ref (α 40 0)), some (.int (J b))] [] h 0 0 (UQ g α ν (some (.int (J 0))) (fun X' => X' = xs X 40 0 0 1))
  have q0 := rm_nC hM
  have q1 := wo_nC hO
  have q2 := rm_nS hM
  have q3 := wo_nS hO
  refine ev_ald0 1 dX12_transcriptLength_0 rfl ?_
  refine ev_ald0 2 dX12_transcriptLength_1 rfl ?_
  refine ev_ild1 3 dX12_transcriptLength_2 rfl ?_
  refine tc_V1 6 14 dX12_transcriptLength_3 lkv_X12_158 (tr40 hT) rfl rfl (by first | decide | omega) (Nat.le_of_ble_eq_true rfl) (isStudent_no hT hO hM hb hn) ?_
  refine tj_if_eq 13 9 dX12_transcriptLength_6 (by decide) rfl (by first | exact TR.rng hT _ _ _ | exact R31_of _ | exact bi_R _ | (constructor <;> omega)) (fun c6 => ?_) (fun c6 => ?_)
  · skip
    refine tj_iconst 14 dX12_transcriptLength_13 rfl ?_
    refine tm_V1 17 14 dX12_transcriptLength_14 lkv_X12_144 (tr40 hT) rfl rfl (by first | decide | omega) (Nat.le_of_ble_eq_true rfl) (goes_n hT (by omega)) (fun h X1 hT hP14 => ?_)
    have hM1 := hM
    have hM : RM O X1 := by rw [hP14]; exact rm_th hM1 _
    have q0 := rm_nC hM
    have q2 := rm_nS hM
    refine tj_if_ne 22 20 dX12_transcriptLength_17 (by decide) rfl (by first | exact TR.rng hT _ _ _ | exact R31_of _ | exact bi_R _ | (constructor <;> omega)) (fun c17 => ?_) (fun c17 => ?_)
    · exact False.elim (by omega)
    · skip
      refine tj_iconst 21 dX12_transcriptLength_20 rfl ?_
      exact ev_ireturn (uq_i (by first | rfl | omega | exact bi_dt (by omega) | exact bi_df (by omega) | (skip)) hT (by assumption)) rfl dX12_transcriptLength_21
  · exact False.elim (by omega)
set_option maxRecDepth 100000 in
set_option maxHeartbeats 4000000 in
theorem c_X12_transcriptLength_ok {g : Gt} {α : AL} {ν : Nat → Nat → Bool} {X : XM} {h : AH} (hT : TR g α ν X h) {O : XM} (hO : WO O) (hM : RM O X) {s : Nat} (hs : (s : Int) < nS O) : Mu g α ν M_X12_transcriptLength 27 [.ref (α 40 0), .int (J (s : Int))] h (some (.int (J ((allL O s (nC O).toNat).length : Int)))) (fun X' => RM O X' ∧ CZ X X' 0) := by
  refine mu_of rfl rfl (ls := [some (.ref (α 40 0)), some (.int (J (s : Int)))]) rfl (Nat.le_of_ble_eq_true rfl) ?_
  show Ev g M_X12_transcriptLength 27 0 [some (.ref (α 40 0)), some (.int (J (s : Int)))] [] h 0 0 (UQ g α ν (some (.int (J ((allL O s (nC O).toNat).length : Int)))) (fun X' => RM O X' ∧ CZ X X' 0))
  have q0 := rm_nC hM
  have q1 := wo_nC hO
  have q2 := rm_nS hM
  have q3 := wo_nS hO
  have han := allL_n hO hs (nC O).toNat (by omega)
  refine ev_ald0 1 dX12_transcriptLength_0 rfl ?_
  refine ev_ald0 2 dX12_transcriptLength_1 rfl ?_
  refine ev_ild1 3 dX12_transcriptLength_2 rfl ?_
  refine tc_V1 6 14 dX12_transcriptLength_3 lkv_X12_158 (tr40 hT) rfl rfl (by first | decide | omega) (Nat.le_of_ble_eq_true rfl) (isStudent_ok hT hO hM (by omega)) ?_
  refine tj_if_eq 13 9 dX12_transcriptLength_6 (by decide) rfl (by first | exact TR.rng hT _ _ _ | exact R31_of _ | exact bi_R _ | (constructor <;> omega)) (fun c6 => ?_) (fun c6 => ?_)
  · exact False.elim (by omega)
  · skip
    refine tj_iconst 10 dX12_transcriptLength_9 rfl ?_
    refine ev_goto 14 dX12_transcriptLength_10 (by decide) ?_
    refine tm_V1 17 14 dX12_transcriptLength_14 lkv_X12_144 (tr40 hT) rfl rfl (by first | decide | omega) (Nat.le_of_ble_eq_true rfl) (goes_0 hT) (fun h X1 hT hP14 => ?_)
    have hM1 := hM
    have hM : RM O X1 := by rw [hP14]; exact rm_th hM1 _
    have q0 := rm_nC hM
    have q2 := rm_nS hM
    refine tj_if_ne 22 20 dX12_transcriptLength_17 (by decide) rfl (by first | exact TR.rng hT _ _ _ | exact R31_of _ | exact bi_R _ | (constructor <;> omega)) (fun c17 => ?_) (fun c17 => ?_)
    · skip
      refine ev_ald0 23 dX12_transcriptLength_22 rfl ?_
      refine ev_ild1 24 dX12_transcriptLength_23 rfl ?_
      refine tmv_V1 27 14 dX12_transcriptLength_24 lkv_X12_255 (tr40 hT) rfl rfl (by first | decide | omega) (Nat.le_of_ble_eq_true rfl) (c_X12_writesAll hT hO hM hs) (fun h X1 hT hP24 => ?_)
      have hM2 := rm_WM hM hP24
      obtain ⟨p1, p0, p2, p3⟩ := hP24
      refine ev_ald0 28 dX12_transcriptLength_27 rfl ?_
      refine ev_getfield 31 14 32 fl_X12_242_14 (tr40 hT) rfl dX12_transcriptLength_28 rfl ?_
      exact ev_ireturn (uq_i (by first | rfl | omega | exact bi_dt (by omega) | exact bi_df (by omega) | (exact p2)) hT (by exact ⟨hM2, fun kk q => by rw [p1 kk (by omega) (by omega), hP14, xs_nk (by omega)], by rw [p0 0 (by decide), hP14, xs_at, if_pos rfl]⟩)) rfl dX12_transcriptLength_31
    · exact False.elim (by omega)
set_option maxRecDepth 100000 in
set_option maxHeartbeats 4000000 in
theorem c_X12_transcriptAt_b1 {g : Gt} {α : AL} {ν : Nat → Nat → Bool} {X : XM} {h : AH} (hT : TR g α ν X h) {O : XM} (hO : WO O) (hM : RM O X) {b : Int} (hb : R31 b) (hn : ¬ (0 ≤ b ∧ b < nS O)) {a1 : Int} (ha1 : R31 a1) : Mu g α ν M_X12_transcriptAt 27 [.ref (α 40 0), .int (J b), .int (J a1)] h (some (.int (J 0))) (fun X' => RM O X' ∧ CZ X X' 1) := by
  refine mu_of rfl rfl (ls := [some (.ref (α 40 0)), some (.int (J b)), some (.int (J a1))]) rfl (Nat.le_of_ble_eq_true rfl) ?_
  show Ev g M_X12_transcriptAt 27 0 [some (.ref (α 40 0)), some (.int (J b)), some (.int (J a1))] [] h 0 0 (UQ g α ν (some (.int (J 0))) (fun X' => RM O X' ∧ CZ X X' 1))
  have q0 := rm_nC hM
  have q1 := wo_nC hO
  have q2 := rm_nS hM
  have q3 := wo_nS hO
  refine ev_ald0 1 dX12_transcriptAt_0 rfl ?_
  refine tj_iconst 2 dX12_transcriptAt_1 rfl ?_
  refine tv_puti 5 32 .int fl_X12_242_14 fp_14_32 hT (tv40 hT) (fun _ => rfl) rfl (Nat.le_of_ble_eq_true rfl) rfl rfl (by first | exact TR.rng hT _ _ _ | exact R31_of _ | exact bi_R _ | (constructor <;> omega)) dX12_transcriptAt_2 rfl (fun h hT => ?_)
  obtain ⟨X9, hX9⟩ : ∃ Z, Z = xs X 40 0 32 0 := ⟨_, rfl⟩
  rw [← hX9] at hT
  have hM0 := hM
  have hM : RM O X9 := by rw [hX9]; exact rm_sc hM0 (by decide) _
  have q0 := rm_nC hM
  have q2 := rm_nS hM
  have e32 : X9 40 0 32 = 0 := by rw [hX9, xs_at, if_pos rfl]
  refine ev_ald0 6 dX12_transcriptAt_5 rfl ?_
  refine ev_ild1 7 dX12_transcriptAt_6 rfl ?_
  refine tc_V1 10 14 dX12_transcriptAt_7 lkv_X12_158 (tr40 hT) rfl rfl (by first | decide | omega) (Nat.le_of_ble_eq_true rfl) (isStudent_no hT hO hM hb hn) ?_
  refine tj_if_eq 18 13 dX12_transcriptAt_10 (by decide) rfl (by first | exact TR.rng hT _ _ _ | exact R31_of _ | exact bi_R _ | (constructor <;> omega)) (fun c10 => ?_) (fun c10 => ?_)
  · skip
    refine ev_ald0 19 dX12_transcriptAt_18 rfl ?_
    refine ev_ild2 20 dX12_transcriptAt_19 rfl ?_
    refine tj_iconst 21 dX12_transcriptAt_20 rfl ?_
    refine ev_ald0 22 dX12_transcriptAt_21 rfl ?_
    refine ev_getfield 25 14 32 fl_X12_242_14 (tr40 hT) rfl dX12_transcriptAt_22 rfl ?_
    refine tj_iconst 26 dX12_transcriptAt_25 rfl ?_
    refine tj_isub 27 dX12_transcriptAt_26 rfl ?_
    refine tc_S3 30 dX12_transcriptAt_27 lks_X12_96 rfl (by first | decide | omega) (Nat.le_of_ble_eq_true rfl) (in_no (by first | exact TR.rng hT _ _ _ | exact R31_of _ | exact bi_R _ | (constructor <;> omega)) (by first | exact TR.rng hT _ _ _ | exact R31_of _ | exact bi_R _ | (constructor <;> omega)) (by first | exact TR.rng hT _ _ _ | exact R31_of _ | exact bi_R _ | (constructor <;> omega)) (by omega)) ?_
    refine tj_if_eq 37 33 dX12_transcriptAt_30 (by decide) rfl (by first | exact TR.rng hT _ _ _ | exact R31_of _ | exact bi_R _ | (constructor <;> omega)) (fun c30 => ?_) (fun c30 => ?_)
    · skip
      refine tj_iconst 38 dX12_transcriptAt_37 rfl ?_
      refine tm_V1 41 14 dX12_transcriptAt_38 lkv_X12_144 (tr40 hT) rfl rfl (by first | decide | omega) (Nat.le_of_ble_eq_true rfl) (goes_n hT (by omega)) (fun h X1 hT hP38 => ?_)
      have hM1 := hM
      have hM : RM O X1 := by rw [hP38]; exact rm_th hM1 _
      have q0 := rm_nC hM
      have q2 := rm_nS hM
      refine tj_if_eq 54 44 dX12_transcriptAt_41 (by decide) rfl (by first | exact TR.rng hT _ _ _ | exact R31_of _ | exact bi_R _ | (constructor <;> omega)) (fun c41 => ?_) (fun c41 => ?_)
      · skip
        refine tj_iconst 55 dX12_transcriptAt_54 rfl ?_
        exact tz_retcU (by first | rfl | omega | exact bi_dt (by omega) | exact bi_df (by omega) | (skip)) (by first | decide | omega) hT (by exact ⟨hM, by rw [hP38, hX9]; exact CZ.at (CM.xs _ (by decide)) _⟩) rfl dX12_transcriptAt_55
      · exact False.elim (by omega)
    · exact False.elim (by omega)
  · exact False.elim (by omega)
set_option maxRecDepth 100000 in
set_option maxHeartbeats 4000000 in
theorem c_X12_transcriptAt_x1 {g : Gt} {α : AL} {ν : Nat → Nat → Bool} {X : XM} {h : AH} (hT : TR g α ν X h) {O : XM} (hO : WO O) (hM : RM O X) {s : Nat} (hs : (s : Int) < nS O) {a1 : Int} (ha1 : R31 a1) (hi : ¬ (0 ≤ a1 ∧ a1 < (allL O s (nC O).toNat).length)) : Mu g α ν M_X12_transcriptAt 27 [.ref (α 40 0), .int (J (s : Int)), .int (J a1)] h (some (.int (J 0))) (fun X' => RM O X' ∧ CZ X X' 1) := by
  refine mu_of rfl rfl (ls := [some (.ref (α 40 0)), some (.int (J (s : Int))), some (.int (J a1))]) rfl (Nat.le_of_ble_eq_true rfl) ?_
  show Ev g M_X12_transcriptAt 27 0 [some (.ref (α 40 0)), some (.int (J (s : Int))), some (.int (J a1))] [] h 0 0 (UQ g α ν (some (.int (J 0))) (fun X' => RM O X' ∧ CZ X X' 1))
  have q0 := rm_nC hM
  have q1 := wo_nC hO
  have q2 := rm_nS hM
  have q3 := wo_nS hO
  have han := allL_n hO hs (nC O).toNat (by omega)
  refine ev_ald0 1 dX12_transcriptAt_0 rfl ?_
  refine tj_iconst 2 dX12_transcriptAt_1 rfl ?_
  refine tv_puti 5 32 .int fl_X12_242_14 fp_14_32 hT (tv40 hT) (fun _ => rfl) rfl (Nat.le_of_ble_eq_true rfl) rfl rfl (by first | exact TR.rng hT _ _ _ | exact R31_of _ | exact bi_R _ | (constructor <;> omega)) dX12_transcriptAt_2 rfl (fun h hT => ?_)
  obtain ⟨X9, hX9⟩ : ∃ Z, Z = xs X 40 0 32 0 := ⟨_, rfl⟩
  rw [← hX9] at hT
  have hM0 := hM
  have hM : RM O X9 := by rw [hX9]; exact rm_sc hM0 (by decide) _
  have q0 := rm_nC hM
  have q2 := rm_nS hM
  have e32 : X9 40 0 32 = 0 := by rw [hX9, xs_at, if_pos rfl]
  refine ev_ald0 6 dX12_transcriptAt_5 rfl ?_
  refine ev_ild1 7 dX12_transcriptAt_6 rfl ?_
  refine tc_V1 10 14 dX12_transcriptAt_7 lkv_X12_158 (tr40 hT) rfl rfl (by first | decide | omega) (Nat.le_of_ble_eq_true rfl) (isStudent_ok hT hO hM (by omega)) ?_
  refine tj_if_eq 18 13 dX12_transcriptAt_10 (by decide) rfl (by first | exact TR.rng hT _ _ _ | exact R31_of _ | exact bi_R _ | (constructor <;> omega)) (fun c10 => ?_) (fun c10 => ?_)
  · exact False.elim (by omega)
  · skip
    refine ev_ald0 14 dX12_transcriptAt_13 rfl ?_
    refine ev_ild1 15 dX12_transcriptAt_14 rfl ?_
    refine tmv_V1 18 14 dX12_transcriptAt_15 lkv_X12_255 (tr40 hT) rfl rfl (by first | decide | omega) (Nat.le_of_ble_eq_true rfl) (c_X12_writesAll hT hO hM hs) (fun h X1 hT hP15 => ?_)
    have hM2 := rm_WM hM hP15
    obtain ⟨p1, p0, p2, p3⟩ := hP15
    have hM := hM2
    obtain ⟨X8, hX8⟩ : ∃ Z, Z = X1 := ⟨_, rfl⟩
    rw [← hX8] at hT hM p1 p0 p2 p3
    have hC1 : CM X X8 := fun kk q => by rw [p1 kk (by omega) (by omega), hX9, xs_nk (by omega)]
    refine ev_ald0 19 dX12_transcriptAt_18 rfl ?_
    refine ev_ild2 20 dX12_transcriptAt_19 rfl ?_
    refine tj_iconst 21 dX12_transcriptAt_20 rfl ?_
    refine ev_ald0 22 dX12_transcriptAt_21 rfl ?_
    refine ev_getfield 25 14 32 fl_X12_242_14 (tr40 hT) rfl dX12_transcriptAt_22 rfl ?_
    refine tj_iconst 26 dX12_transcriptAt_25 rfl ?_
    refine tj_isub 27 dX12_transcriptAt_26 rfl ?_
    refine tc_S3 30 dX12_transcriptAt_27 lks_X12_96 rfl (by first | decide | omega) (Nat.le_of_ble_eq_true rfl) (in_no (by first | exact TR.rng hT _ _ _ | exact R31_of _ | exact bi_R _ | (constructor <;> omega)) (by first | exact TR.rng hT _ _ _ | exact R31_of _ | exact bi_R _ | (constructor <;> omega)) (by first | exact TR.rng hT _ _ _ | exact R31_of _ | exact bi_R _ | (constructor <;> omega)) (by omega)) ?_
    refine tj_if_eq 37 33 dX12_transcriptAt_30 (by decide) rfl (by first | exact TR.rng hT _ _ _ | exact R31_of _ | exact bi_R _ | (constructor <;> omega)) (fun c30 => ?_) (fun c30 => ?_)
    · skip
      refine tj_iconst 38 dX12_transcriptAt_37 rfl ?_
      refine tm_V1 41 14 dX12_transcriptAt_38 lkv_X12_144 (tr40 hT) rfl rfl (by first | decide | omega) (Nat.le_of_ble_eq_true rfl) (goes_n hT (by omega)) (fun h X1 hT hP38 => ?_)
      have hM1 := hM
      have hM : RM O X1 := by rw [hP38]; exact rm_th hM1 _
      have q0 := rm_nC hM
      have q2 := rm_nS hM
      refine tj_if_eq 54 44 dX12_transcriptAt_41 (by decide) rfl (by first | exact TR.rng hT _ _ _ | exact R31_of _ | exact bi_R _ | (constructor <;> omega)) (fun c41 => ?_) (fun c41 => ?_)
      · skip
        refine tj_iconst 55 dX12_transcriptAt_54 rfl ?_
        exact tz_retcU (by first | rfl | omega | exact bi_dt (by omega) | exact bi_df (by omega) | (skip)) (by first | decide | omega) hT (by exact ⟨hM, by rw [hP38]; exact CZ.at hC1 _⟩) rfl dX12_transcriptAt_55
      · exact False.elim (by omega)
    · exact False.elim (by omega)
set_option maxRecDepth 100000 in
set_option maxHeartbeats 4000000 in
theorem c_X12_transcriptAt_ok {g : Gt} {α : AL} {ν : Nat → Nat → Bool} {X : XM} {h : AH} (hT : TR g α ν X h) {O : XM} (hO : WO O) (hM : RM O X) {s : Nat} (hs : (s : Int) < nS O) {i : Nat} (hi : i < (allL O s (nC O).toNat).length) : Mu g α ν M_X12_transcriptAt 27 [.ref (α 40 0), .int (J (s : Int)), .int (J (i : Int))] h (some (.int (J ((allL O s (nC O).toNat).getD i 0)))) (fun X' => RM O X' ∧ CZ X X' 0) := by
  refine mu_of rfl rfl (ls := [some (.ref (α 40 0)), some (.int (J (s : Int))), some (.int (J (i : Int)))]) rfl (Nat.le_of_ble_eq_true rfl) ?_
  show Ev g M_X12_transcriptAt 27 0 [some (.ref (α 40 0)), some (.int (J (s : Int))), some (.int (J (i : Int)))] [] h 0 0 (UQ g α ν (some (.int (J ((allL O s (nC O).toNat).getD i 0)))) (fun X' => RM O X' ∧ CZ X X' 0))
  have q0 := rm_nC hM
  have q1 := wo_nC hO
  have q2 := rm_nS hM
  have q3 := wo_nS hO
  have han := allL_n hO hs (nC O).toNat (by omega)
  have hal := allL_R hO hs (c := 0) rfl hi
  refine ev_ald0 1 dX12_transcriptAt_0 rfl ?_
  refine tj_iconst 2 dX12_transcriptAt_1 rfl ?_
  refine tv_puti 5 32 .int fl_X12_242_14 fp_14_32 hT (tv40 hT) (fun _ => rfl) rfl (Nat.le_of_ble_eq_true rfl) rfl rfl (by first | exact TR.rng hT _ _ _ | exact R31_of _ | exact bi_R _ | (constructor <;> omega)) dX12_transcriptAt_2 rfl (fun h hT => ?_)
  obtain ⟨X9, hX9⟩ : ∃ Z, Z = xs X 40 0 32 0 := ⟨_, rfl⟩
  rw [← hX9] at hT
  have hM0 := hM
  have hM : RM O X9 := by rw [hX9]; exact rm_sc hM0 (by decide) _
  have q0 := rm_nC hM
  have q2 := rm_nS hM
  have e32 : X9 40 0 32 = 0 := by rw [hX9, xs_at, if_pos rfl]
  refine ev_ald0 6 dX12_transcriptAt_5 rfl ?_
  refine ev_ild1 7 dX12_transcriptAt_6 rfl ?_
  refine tc_V1 10 14 dX12_transcriptAt_7 lkv_X12_158 (tr40 hT) rfl rfl (by first | decide | omega) (Nat.le_of_ble_eq_true rfl) (isStudent_ok hT hO hM (by omega)) ?_
  refine tj_if_eq 18 13 dX12_transcriptAt_10 (by decide) rfl (by first | exact TR.rng hT _ _ _ | exact R31_of _ | exact bi_R _ | (constructor <;> omega)) (fun c10 => ?_) (fun c10 => ?_)
  · exact False.elim (by omega)
  · skip
    refine ev_ald0 14 dX12_transcriptAt_13 rfl ?_
    refine ev_ild1 15 dX12_transcriptAt_14 rfl ?_
    refine tmv_V1 18 14 dX12_transcriptAt_15 lkv_X12_255 (tr40 hT) rfl rfl (by first | decide | omega) (Nat.le_of_ble_eq_true rfl) (c_X12_writesAll hT hO hM hs) (fun h X1 hT hP15 => ?_)
    have hM2 := rm_WM hM hP15
    obtain ⟨p1, p0, p2, p3⟩ := hP15
    have hM := hM2
    obtain ⟨X8, hX8⟩ : ∃ Z, Z = X1 := ⟨_, rfl⟩
    rw [← hX8] at hT hM p1 p0 p2 p3
    have hC1 : CM X X8 := fun kk q => by rw [p1 kk (by omega) (by omega), hX9, xs_nk (by omega)]
    refine ev_ald0 19 dX12_transcriptAt_18 rfl ?_
    refine ev_ild2 20 dX12_transcriptAt_19 rfl ?_
    refine tj_iconst 21 dX12_transcriptAt_20 rfl ?_
    refine ev_ald0 22 dX12_transcriptAt_21 rfl ?_
    refine ev_getfield 25 14 32 fl_X12_242_14 (tr40 hT) rfl dX12_transcriptAt_22 rfl ?_
    refine tj_iconst 26 dX12_transcriptAt_25 rfl ?_
    refine tj_isub 27 dX12_transcriptAt_26 rfl ?_
    refine tc_S3 30 dX12_transcriptAt_27 lks_X12_96 rfl (by first | decide | omega) (Nat.le_of_ble_eq_true rfl) (in_ok (by first | exact TR.rng hT _ _ _ | exact R31_of _ | exact bi_R _ | (constructor <;> omega)) (by first | exact TR.rng hT _ _ _ | exact R31_of _ | exact bi_R _ | (constructor <;> omega)) (by first | exact TR.rng hT _ _ _ | exact R31_of _ | exact bi_R _ | (constructor <;> omega)) (by omega)) ?_
    refine tj_if_eq 37 33 dX12_transcriptAt_30 (by decide) rfl (by first | exact TR.rng hT _ _ _ | exact R31_of _ | exact bi_R _ | (constructor <;> omega)) (fun c30 => ?_) (fun c30 => ?_)
    · exact False.elim (by omega)
    · skip
      refine tj_iconst 34 dX12_transcriptAt_33 rfl ?_
      refine ev_goto 38 dX12_transcriptAt_34 (by decide) ?_
      refine tm_V1 41 14 dX12_transcriptAt_38 lkv_X12_144 (tr40 hT) rfl rfl (by first | decide | omega) (Nat.le_of_ble_eq_true rfl) (goes_0 hT) (fun h X1 hT hP38 => ?_)
      have hM1 := hM
      have hM : RM O X1 := by rw [hP38]; exact rm_th hM1 _
      have q0 := rm_nC hM
      have q2 := rm_nS hM
      refine tj_if_eq 54 44 dX12_transcriptAt_41 (by decide) rfl (by first | exact TR.rng hT _ _ _ | exact R31_of _ | exact bi_R _ | (constructor <;> omega)) (fun c41 => ?_) (fun c41 => ?_)
      · exact False.elim (by omega)
      · skip
        refine ev_ald0 45 dX12_transcriptAt_44 rfl ?_
        refine ev_getfield 48 14 31 fl_X12_76_14 (tr40 hT) rfl dX12_transcriptAt_45 rfl ?_
        refine ev_ild2 49 dX12_transcriptAt_48 rfl ?_
        refine tv_iald 50 (tr71 hT) (i) (by omega) (by omega) (by omega) dX12_transcriptAt_49 rfl ?_
        rw [show X1 71 0 i = (allL O s (nC O).toNat).getD i 0 by rw [hP38, xs_nk (by decide)]; exact p3 i hi]
        refine tj_i2c 51 dX12_transcriptAt_50 (by omega) rfl ?_
        refine ev_goto 55 dX12_transcriptAt_51 (by decide) ?_
        exact tz_retcU (by first | rfl | omega | exact bi_dt (by omega) | exact bi_df (by omega) | (skip)) hal hT (by exact ⟨hM, by rw [hP38]; exact CZ.at hC1 _⟩) rfl dX12_transcriptAt_55
