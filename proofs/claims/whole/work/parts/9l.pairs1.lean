/-! EACH CALL BESIDE ITS REFERENCE -/
theorem rsn_R {O : XM} (hO : WO O) (s : Nat) : ∀ (n f : Nat), (f : Int) < nF O → (rsn O s n f).1 ≤ n + 1 ∧ (rsn O s n f).2 ≤ f
  | 0, f, _ => ⟨Nat.le_refl _, Nat.le_refl _⟩
  | n + 1, f, hf => by
    rw [rsn]
    by_cases h : O 16 f 9 = 3
    · rw [if_pos h]
      obtain ⟨b1, b2, b3, b4, -⟩ := wo_f3 hO f hf h
      have hx : nx O s f < f := by unfold nx; split <;> omega
      have q := rsn_R hO s n (nx O s f) (by omega)
      exact ⟨by show _ + 1 ≤ _; omega, by show (rsn O s n (nx O s f)).2 ≤ f; omega⟩
    · rw [if_neg h]; exact ⟨by show 1 ≤ _; omega, Nat.le_refl _⟩
set_option maxHeartbeats 2000000 in
theorem pr_majorOf {g : Gt} {α : AL} {ν : Nat → Nat → Bool} {X : XM} {h : AH} {k : Int} (hT : TR g α ν X h) (hI : INV k ν X) {a0 : Int} (ha0 : R31 a0) : PAIR g α ν X h k TZ M_L_majorOf M_X12_majorOf [.int (J a0)] := by
  have qc := wo_nC hI.1.1
  have qs := wo_nS hI.1.1
  have qf := wo_nF hI.1.1
  have qr := wo_nR hI.1.1
  have qd := wo_day hI.1.1
  by_cases hn0 : 0 ≤ a0 ∧ a0 < nS X
  · skip
    obtain ⟨s, rfl⟩ : ∃ z : Nat, a0 = (z : Int) := ⟨a0.toNat, by omega⟩
    have hs0 : (s : Int) < nS X := by omega
    exact pair_as hT hI (hT.rng 4 s 0) (w_majorOf_ok hT (hT.rng 4 s 0) (fun a n x q => by rw [q.1]) (al_of_pr hT (c_X11_majorOf_ok hT hI.1 (by first | assumption | omega | (constructor <;> omega))))) (fun x e kk _ => by rw [e]) (fun X1 h1 hT1 hM1 => mu_wk (c_X12_majorOf_ok hT1 hI.1.1 hM1 (by first | assumption | omega | (constructor <;> omega))) (e_x hM1))
  · skip
    exact pair_no hT hI ⟨by decide, by decide⟩ (z2 := _) (by first | exact R31_0 | exact bi_R _) (w_majorOf_x1 hT (c_X11_majorOf_b1 hT hI.1 (by first | assumption | omega | (constructor <;> omega)) (by first | assumption | omega | (constructor <;> omega)))) (fun x e kk _ => by rw [e]) (fun X1 h1 hT1 hM1 => mu_wk (c_X12_majorOf_b1 hT1 hI.1.1 hM1 (by first | assumption | omega | (constructor <;> omega)) (by first | assumption | omega | (constructor <;> omega))) (e_x hM1))
set_option maxHeartbeats 2000000 in
theorem pr_holds {g : Gt} {α : AL} {ν : Nat → Nat → Bool} {X : XM} {h : AH} {k : Int} (hT : TR g α ν X h) (hI : INV k ν X) {a0 : Int} (ha0 : R31 a0) {a1 : Int} (ha1 : R31 a1) : PAIR g α ν X h k BZ M_L_holds M_X12_holds [.int (J a0), .int (J a1)] := by
  have qc := wo_nC hI.1.1
  have qs := wo_nS hI.1.1
  have qf := wo_nF hI.1.1
  have qr := wo_nR hI.1.1
  have qd := wo_day hI.1.1
  by_cases hn0 : 0 ≤ a0 ∧ a0 < nS X
  · skip
    obtain ⟨s, rfl⟩ : ∃ z : Nat, a0 = (z : Int) := ⟨a0.toNat, by omega⟩
    have hs0 : (s : Int) < nS X := by omega
    by_cases hn1 : 0 ≤ a1 ∧ a1 < nF X
    · skip
      obtain ⟨f, rfl⟩ : ∃ z : Nat, a1 = (z : Int) := ⟨a1.toNat, by omega⟩
      have hf0 : (f : Int) < nF X := by omega
      exact pair_as hT hI (bi_R _) (w_holds_ok hT (fun a n x q => by rw [q.1]) (al_of_pr hT (c_X11_holds_ok hT hI.1 (by first | assumption | omega | (constructor <;> omega)) (by first | assumption | omega | (constructor <;> omega))))) (fun x e kk _ => by rw [e]) (fun X1 h1 hT1 hM1 => mu_wk (c_X12_holds_ok hT1 hI.1.1 hM1 (by first | assumption | omega | (constructor <;> omega)) (by first | assumption | omega | (constructor <;> omega))) (e_x hM1))
    · skip
      exact pair_no hT hI ⟨by decide, by decide⟩ (z2 := _) (by first | exact R31_0 | exact bi_R _) (w_holds_x2 hT (c_X11_holds_b2 hT hI.1 (by first | assumption | omega | (constructor <;> omega)) (by first | assumption | omega | (constructor <;> omega)) (by first | assumption | omega | (constructor <;> omega)))) (fun x e kk _ => by rw [e]) (fun X1 h1 hT1 hM1 => mu_wk (c_X12_holds_b2 hT1 hI.1.1 hM1 (by first | assumption | omega | (constructor <;> omega)) (by first | assumption | omega | (constructor <;> omega)) (by first | assumption | omega | (constructor <;> omega))) (e_x hM1))
  · skip
    exact pair_no hT hI ⟨by decide, by decide⟩ (z2 := _) (by first | exact R31_0 | exact bi_R _) (w_holds_x1 hT (c_X11_holds_b1 hT hI.1 (by first | assumption | omega | (constructor <;> omega)) (by first | assumption | omega | (constructor <;> omega)) (by first | assumption | omega | (constructor <;> omega)))) (fun x e kk _ => by rw [e]) (fun X1 h1 hT1 hM1 => mu_wk (c_X12_holds_b1 hT1 hI.1.1 hM1 (by first | assumption | omega | (constructor <;> omega)) (by first | assumption | omega | (constructor <;> omega)) (by first | assumption | omega | (constructor <;> omega))) (e_x hM1))
set_option maxHeartbeats 2000000 in
theorem pr_outcome {g : Gt} {α : AL} {ν : Nat → Nat → Bool} {X : XM} {h : AH} {k : Int} (hT : TR g α ν X h) (hI : INV k ν X) {a0 : Int} (ha0 : R31 a0) {a1 : Int} (ha1 : R31 a1) : PAIR g α ν X h k TZ M_L_outcome M_X12_outcome [.int (J a0), .int (J a1)] := by
  have qc := wo_nC hI.1.1
  have qs := wo_nS hI.1.1
  have qf := wo_nF hI.1.1
  have qr := wo_nR hI.1.1
  have qd := wo_day hI.1.1
  by_cases hn0 : 0 ≤ a0 ∧ a0 < nS X
  · skip
    obtain ⟨s, rfl⟩ : ∃ z : Nat, a0 = (z : Int) := ⟨a0.toNat, by omega⟩
    have hs0 : (s : Int) < nS X := by omega
    by_cases hn1 : 0 ≤ a1 ∧ a1 < nC X
    · skip
      obtain ⟨c, rfl⟩ : ∃ z : Nat, a1 = (z : Int) := ⟨a1.toNat, by omega⟩
      have hc0 : (c : Int) < nC X := by omega
      have ql := ltr_c X s c
      exact pair_as hT hI (⟨by omega, by omega⟩) (w_outcome_ok hT (⟨by omega, by omega⟩) (fun a n x q => by rw [q.1]) (al_of_pr hT (c_X11_outcome_ok hT hI.1 (by first | assumption | omega | (constructor <;> omega)) (by first | assumption | omega | (constructor <;> omega))))) (fun x e kk _ => by rw [e]) (fun X1 h1 hT1 hM1 => mu_wk (c_X12_outcome_ok hT1 hI.1.1 hM1 (by first | assumption | omega | (constructor <;> omega)) (by first | assumption | omega | (constructor <;> omega))) (e_x hM1))
    · skip
      exact pair_no hT hI ⟨by decide, by decide⟩ (z2 := _) (by first | exact R31_0 | exact bi_R _) (w_outcome_x1 hT (c_X11_outcome_b2 hT hI.1 (by first | assumption | omega | (constructor <;> omega)) (by first | assumption | omega | (constructor <;> omega)) (by first | assumption | omega | (constructor <;> omega)))) (fun x e kk _ => by rw [e]) (fun X1 h1 hT1 hM1 => mu_wk (c_X12_outcome_b2 hT1 hI.1.1 hM1 (by first | assumption | omega | (constructor <;> omega)) (by first | assumption | omega | (constructor <;> omega)) (by first | assumption | omega | (constructor <;> omega))) (e_x hM1))
  · skip
    exact pair_no hT hI ⟨by decide, by decide⟩ (z2 := _) (by first | exact R31_0 | exact bi_R _) (w_outcome_x1 hT (c_X11_outcome_b1 hT hI.1 (by first | assumption | omega | (constructor <;> omega)) (by first | assumption | omega | (constructor <;> omega)) (by first | assumption | omega | (constructor <;> omega)))) (fun x e kk _ => by rw [e]) (fun X1 h1 hT1 hM1 => mu_wk (c_X12_outcome_b1 hT1 hI.1.1 hM1 (by first | assumption | omega | (constructor <;> omega)) (by first | assumption | omega | (constructor <;> omega)) (by first | assumption | omega | (constructor <;> omega))) (e_x hM1))
set_option maxHeartbeats 2000000 in
theorem pr_attempts {g : Gt} {α : AL} {ν : Nat → Nat → Bool} {X : XM} {h : AH} {k : Int} (hT : TR g α ν X h) (hI : INV k ν X) {a0 : Int} (ha0 : R31 a0) {a1 : Int} (ha1 : R31 a1) : PAIR g α ν X h k TZ M_L_attempts M_X12_attempts [.int (J a0), .int (J a1)] := by
  have qc := wo_nC hI.1.1
  have qs := wo_nS hI.1.1
  have qf := wo_nF hI.1.1
  have qr := wo_nR hI.1.1
  have qd := wo_day hI.1.1
  by_cases hn0 : 0 ≤ a0 ∧ a0 < nS X
  · skip
    obtain ⟨s, rfl⟩ : ∃ z : Nat, a0 = (z : Int) := ⟨a0.toNat, by omega⟩
    have hs0 : (s : Int) < nS X := by omega
    by_cases hn1 : 0 ≤ a1 ∧ a1 < nC X
    · skip
      obtain ⟨c, rfl⟩ : ∃ z : Nat, a1 = (z : Int) := ⟨a1.toNat, by omega⟩
      have hc0 : (c : Int) < nC X := by omega
      exact pair_as hT hI (hT.rng 9 s c) (w_attempts_ok hT (hT.rng 9 s c) (fun a n x q => by rw [q.1]) (al_of_pr hT (c_X11_attempts_ok hT hI.1 (by first | assumption | omega | (constructor <;> omega)) (by first | assumption | omega | (constructor <;> omega))))) (fun x e kk _ => by rw [e]) (fun X1 h1 hT1 hM1 => mu_wk (c_X12_attempts_ok hT1 hI.1.1 hM1 (by first | assumption | omega | (constructor <;> omega)) (by first | assumption | omega | (constructor <;> omega))) (e_x hM1))
    · skip
      exact pair_no hT hI ⟨by decide, by decide⟩ (z2 := _) (by first | exact R31_0 | exact bi_R _) (w_attempts_x1 hT (c_X11_attempts_b2 hT hI.1 (by first | assumption | omega | (constructor <;> omega)) (by first | assumption | omega | (constructor <;> omega)) (by first | assumption | omega | (constructor <;> omega)))) (fun x e kk _ => by rw [e]) (fun X1 h1 hT1 hM1 => mu_wk (c_X12_attempts_b2 hT1 hI.1.1 hM1 (by first | assumption | omega | (constructor <;> omega)) (by first | assumption | omega | (constructor <;> omega)) (by first | assumption | omega | (constructor <;> omega))) (e_x hM1))
  · skip
    exact pair_no hT hI ⟨by decide, by decide⟩ (z2 := _) (by first | exact R31_0 | exact bi_R _) (w_attempts_x1 hT (c_X11_attempts_b1 hT hI.1 (by first | assumption | omega | (constructor <;> omega)) (by first | assumption | omega | (constructor <;> omega)) (by first | assumption | omega | (constructor <;> omega)))) (fun x e kk _ => by rw [e]) (fun X1 h1 hT1 hM1 => mu_wk (c_X12_attempts_b1 hT1 hI.1.1 hM1 (by first | assumption | omega | (constructor <;> omega)) (by first | assumption | omega | (constructor <;> omega)) (by first | assumption | omega | (constructor <;> omega))) (e_x hM1))
set_option maxHeartbeats 2000000 in
theorem pr_isEnrolled {g : Gt} {α : AL} {ν : Nat → Nat → Bool} {X : XM} {h : AH} {k : Int} (hT : TR g α ν X h) (hI : INV k ν X) {a0 : Int} (ha0 : R31 a0) {a1 : Int} (ha1 : R31 a1) : PAIR g α ν X h k BZ M_L_isEnrolled M_X12_isEnrolled [.int (J a0), .int (J a1)] := by
  have qc := wo_nC hI.1.1
  have qs := wo_nS hI.1.1
  have qf := wo_nF hI.1.1
  have qr := wo_nR hI.1.1
  have qd := wo_day hI.1.1
  by_cases hn0 : 0 ≤ a0 ∧ a0 < nS X
  · skip
    obtain ⟨s, rfl⟩ : ∃ z : Nat, a0 = (z : Int) := ⟨a0.toNat, by omega⟩
    have hs0 : (s : Int) < nS X := by omega
    by_cases hn1 : 0 ≤ a1 ∧ a1 < nC X
    · skip
      obtain ⟨c, rfl⟩ : ∃ z : Nat, a1 = (z : Int) := ⟨a1.toNat, by omega⟩
      have hc0 : (c : Int) < nC X := by omega
      exact pair_as hT hI (bi_R _) (w_isEnrolled_ok hT (fun a n x q => by rw [q.1]) (al_of_pr hT (c_X11_isEnrolled_ok hT hI.1 (by first | assumption | omega | (constructor <;> omega)) (by first | assumption | omega | (constructor <;> omega))))) (fun x e kk _ => by rw [e]) (fun X1 h1 hT1 hM1 => mu_wk (c_X12_isEnrolled_ok hT1 hI.1.1 hM1 (by first | assumption | omega | (constructor <;> omega)) (by first | assumption | omega | (constructor <;> omega))) (e_x hM1))
    · skip
      exact pair_no hT hI ⟨by decide, by decide⟩ (z2 := _) (by first | exact R31_0 | exact bi_R _) (w_isEnrolled_x1 hT (c_X11_isEnrolled_b2 hT hI.1 (by first | assumption | omega | (constructor <;> omega)) (by first | assumption | omega | (constructor <;> omega)) (by first | assumption | omega | (constructor <;> omega)))) (fun x e kk _ => by rw [e]) (fun X1 h1 hT1 hM1 => mu_wk (c_X12_isEnrolled_b2 hT1 hI.1.1 hM1 (by first | assumption | omega | (constructor <;> omega)) (by first | assumption | omega | (constructor <;> omega)) (by first | assumption | omega | (constructor <;> omega))) (e_x hM1))
  · skip
    exact pair_no hT hI ⟨by decide, by decide⟩ (z2 := _) (by first | exact R31_0 | exact bi_R _) (w_isEnrolled_x1 hT (c_X11_isEnrolled_b1 hT hI.1 (by first | assumption | omega | (constructor <;> omega)) (by first | assumption | omega | (constructor <;> omega)) (by first | assumption | omega | (constructor <;> omega)))) (fun x e kk _ => by rw [e]) (fun X1 h1 hT1 hM1 => mu_wk (c_X12_isEnrolled_b1 hT1 hI.1.1 hM1 (by first | assumption | omega | (constructor <;> omega)) (by first | assumption | omega | (constructor <;> omega)) (by first | assumption | omega | (constructor <;> omega))) (e_x hM1))
set_option maxHeartbeats 2000000 in
theorem pr_enrolled {g : Gt} {α : AL} {ν : Nat → Nat → Bool} {X : XM} {h : AH} {k : Int} (hT : TR g α ν X h) (hI : INV k ν X) {a0 : Int} (ha0 : R31 a0) : PAIR g α ν X h k TZ M_L_enrolled M_X12_enrolled [.int (J a0)] := by
  have qc := wo_nC hI.1.1
  have qs := wo_nS hI.1.1
  have qf := wo_nF hI.1.1
  have qr := wo_nR hI.1.1
  have qd := wo_day hI.1.1
  by_cases hn0 : 0 ≤ a0 ∧ a0 < nC X
  · skip
    obtain ⟨c, rfl⟩ : ∃ z : Nat, a0 = (z : Int) := ⟨a0.toNat, by omega⟩
    have hc0 : (c : Int) < nC X := by omega
    have ql := enr_0 hI.1.1 c
    exact pair_as hT hI (⟨by omega, by omega⟩) (w_enrolled_ok hT (⟨by omega, by omega⟩) (fun a n x q => by rw [q.1]) (al_of_pr hT (c_X11_enrolled_ok hT hI.1 (by first | assumption | omega | (constructor <;> omega))))) (fun x e kk _ => by rw [e]) (fun X1 h1 hT1 hM1 => mu_wk (c_X12_enrolled_ok hT1 hI.1.1 hM1 (by first | assumption | omega | (constructor <;> omega))) (e_x hM1))
  · skip
    exact pair_no hT hI ⟨by decide, by decide⟩ (z2 := _) (by first | exact R31_0 | exact bi_R _) (w_enrolled_x1 hT (c_X11_enrolled_b1 hT hI.1 (by first | assumption | omega | (constructor <;> omega)) (by first | assumption | omega | (constructor <;> omega)))) (fun x e kk _ => by rw [e]) (fun X1 h1 hT1 hM1 => mu_wk (c_X12_enrolled_b1 hT1 hI.1.1 hM1 (by first | assumption | omega | (constructor <;> omega)) (by first | assumption | omega | (constructor <;> omega))) (e_x hM1))
set_option maxHeartbeats 2000000 in
theorem pr_waiting {g : Gt} {α : AL} {ν : Nat → Nat → Bool} {X : XM} {h : AH} {k : Int} (hT : TR g α ν X h) (hI : INV k ν X) {a0 : Int} (ha0 : R31 a0) : PAIR g α ν X h k TZ M_L_waiting M_X12_waiting [.int (J a0)] := by
  have qc := wo_nC hI.1.1
  have qs := wo_nS hI.1.1
  have qf := wo_nF hI.1.1
  have qr := wo_nR hI.1.1
  have qd := wo_day hI.1.1
  by_cases hn0 : 0 ≤ a0 ∧ a0 < nC X
  · skip
    obtain ⟨c, rfl⟩ : ∃ z : Nat, a0 = (z : Int) := ⟨a0.toNat, by omega⟩
    have hc0 : (c : Int) < nC X := by omega
    exact pair_as hT hI (hT.rng 1 (4 + c) 2) (w_waiting_ok hT (hT.rng 1 (4 + c) 2) (fun a n x q => by rw [q.1]) (al_of_pr hT (c_X11_waiting_ok hT hI.1 (by first | assumption | omega | (constructor <;> omega))))) (fun x e kk _ => by rw [e]) (fun X1 h1 hT1 hM1 => mu_wk (c_X12_waiting_ok hT1 hI.1.1 hM1 (by first | assumption | omega | (constructor <;> omega))) (e_x hM1))
  · skip
    exact pair_no hT hI ⟨by decide, by decide⟩ (z2 := _) (by first | exact R31_0 | exact bi_R _) (w_waiting_x1 hT (c_X11_waiting_b1 hT hI.1 (by first | assumption | omega | (constructor <;> omega)) (by first | assumption | omega | (constructor <;> omega)))) (fun x e kk _ => by rw [e]) (fun X1 h1 hT1 hM1 => mu_wk (c_X12_waiting_b1 hT1 hI.1.1 hM1 (by first | assumption | omega | (constructor <;> omega)) (by first | assumption | omega | (constructor <;> omega))) (e_x hM1))
set_option maxHeartbeats 2000000 in
theorem pr_earnedCredits {g : Gt} {α : AL} {ν : Nat → Nat → Bool} {X : XM} {h : AH} {k : Int} (hT : TR g α ν X h) (hI : INV k ν X) {a0 : Int} (ha0 : R31 a0) : PAIR g α ν X h k TZ M_L_earnedCredits M_X12_earnedCredits [.int (J a0)] := by
  have qc := wo_nC hI.1.1
  have qs := wo_nS hI.1.1
  have qf := wo_nF hI.1.1
  have qr := wo_nR hI.1.1
  have qd := wo_day hI.1.1
  by_cases hn0 : 0 ≤ a0 ∧ a0 < nS X
  · skip
    obtain ⟨s, rfl⟩ : ∃ z : Nat, a0 = (z : Int) := ⟨a0.toNat, by omega⟩
    have hs0 : (s : Int) < nS X := by omega
    have ql : 0 ≤ ernd X s ∧ ernd X s ≤ 6 * ((nC X).toNat : Int) := crS_0 hI.1.1 (psd X s) (nC X).toNat (by omega)
    exact pair_as hT hI (⟨by omega, by omega⟩) (w_earnedCredits_ok hT (⟨by omega, by omega⟩) (fun a n x q => by rw [q.1]) (al_of_pr hT (c_X11_earnedCredits_ok hT hI.1 (by first | assumption | omega | (constructor <;> omega))))) (fun x e kk _ => by rw [e]) (fun X1 h1 hT1 hM1 => mu_wk (c_X12_earnedCredits_ok hT1 hI.1.1 hM1 (by first | assumption | omega | (constructor <;> omega))) (e_x hM1))
  · skip
    exact pair_no hT hI ⟨by decide, by decide⟩ (z2 := _) (by first | exact R31_0 | exact bi_R _) (w_earnedCredits_x1 hT (c_X11_earnedCredits_b1 hT hI.1 (by first | assumption | omega | (constructor <;> omega)) (by first | assumption | omega | (constructor <;> omega)))) (fun x e kk _ => by rw [e]) (fun X1 h1 hT1 hM1 => mu_wk (c_X12_earnedCredits_b1 hT1 hI.1.1 hM1 (by first | assumption | omega | (constructor <;> omega)) (by first | assumption | omega | (constructor <;> omega))) (e_x hM1))
set_option maxHeartbeats 2000000 in
theorem pr_load {g : Gt} {α : AL} {ν : Nat → Nat → Bool} {X : XM} {h : AH} {k : Int} (hT : TR g α ν X h) (hI : INV k ν X) {a0 : Int} (ha0 : R31 a0) : PAIR g α ν X h k TZ M_L_load M_X12_load [.int (J a0)] := by
  have qc := wo_nC hI.1.1
  have qs := wo_nS hI.1.1
  have qf := wo_nF hI.1.1
  have qr := wo_nR hI.1.1
  have qd := wo_day hI.1.1
  by_cases hn0 : 0 ≤ a0 ∧ a0 < nS X
  · skip
    obtain ⟨s, rfl⟩ : ∃ z : Nat, a0 = (z : Int) := ⟨a0.toNat, by omega⟩
    have hs0 : (s : Int) < nS X := by omega
    have ql : 0 ≤ load X s ∧ load X s ≤ 6 * ((nC X).toNat : Int) := crS_0 hI.1.1 (tak X s) (nC X).toNat (by omega)
    exact pair_as hT hI (⟨by omega, by omega⟩) (w_load_ok hT (⟨by omega, by omega⟩) (fun a n x q => by rw [q.1]) (al_of_pr hT (c_X11_load_ok hT hI.1 (by first | assumption | omega | (constructor <;> omega))))) (fun x e kk _ => by rw [e]) (fun X1 h1 hT1 hM1 => mu_wk (c_X12_load_ok hT1 hI.1.1 hM1 (by first | assumption | omega | (constructor <;> omega))) (e_x hM1))
  · skip
    exact pair_no hT hI ⟨by decide, by decide⟩ (z2 := _) (by first | exact R31_0 | exact bi_R _) (w_load_x1 hT (c_X11_load_b1 hT hI.1 (by first | assumption | omega | (constructor <;> omega)) (by first | assumption | omega | (constructor <;> omega)))) (fun x e kk _ => by rw [e]) (fun X1 h1 hT1 hM1 => mu_wk (c_X12_load_b1 hT1 hI.1.1 hM1 (by first | assumption | omega | (constructor <;> omega)) (by first | assumption | omega | (constructor <;> omega))) (e_x hM1))
set_option maxHeartbeats 2000000 in
theorem pr_bestMark {g : Gt} {α : AL} {ν : Nat → Nat → Bool} {X : XM} {h : AH} {k : Int} (hT : TR g α ν X h) (hI : INV k ν X) {a0 : Int} (ha0 : R31 a0) {a1 : Int} (ha1 : R31 a1) : PAIR g α ν X h k TZ M_L_bestMark M_X12_bestMark [.int (J a0), .int (J a1)] := by
  have qc := wo_nC hI.1.1
  have qs := wo_nS hI.1.1
  have qf := wo_nF hI.1.1
  have qr := wo_nR hI.1.1
  have qd := wo_day hI.1.1
  by_cases hn0 : 0 ≤ a0 ∧ a0 < nS X
  · skip
    obtain ⟨s, rfl⟩ : ∃ z : Nat, a0 = (z : Int) := ⟨a0.toNat, by omega⟩
    have hs0 : (s : Int) < nS X := by omega
    by_cases hn1 : 0 ≤ a1 ∧ a1 < nC X
    · skip
      obtain ⟨c, rfl⟩ : ∃ z : Nat, a1 = (z : Int) := ⟨a1.toNat, by omega⟩
      have hc0 : (c : Int) < nC X := by omega
      by_cases hb : X 8 s c = -1
      · skip
        exact pair_no hT hI ⟨by decide, by decide⟩ (z2 := _) (by first | exact R31_0 | exact bi_R _) (w_bestMark_x2 hT (c_X11_bestMark_x2 hT hI.1 (by first | assumption | omega | (constructor <;> omega)) (by first | assumption | omega | (constructor <;> omega)) (by first | assumption | omega | (constructor <;> omega)))) (fun x e kk _ => by rw [e]) (fun X1 h1 hT1 hM1 => mu_wk (c_X12_bestMark_x2 hT1 hI.1.1 hM1 (by first | assumption | omega | (constructor <;> omega)) (by first | assumption | omega | (constructor <;> omega)) (by first | assumption | omega | (constructor <;> omega))) (e_x hM1))
      · skip
        exact pair_as hT hI (hT.rng 8 s c) (w_bestMark_ok hT (hT.rng 8 s c) (fun a n x q => by rw [q.1]) (al_of_pr hT (c_X11_bestMark_ok hT hI.1 (by first | assumption | omega | (constructor <;> omega)) (by first | assumption | omega | (constructor <;> omega)) (by first | assumption | omega | (constructor <;> omega))))) (fun x e kk _ => by rw [e]) (fun X1 h1 hT1 hM1 => mu_wk (c_X12_bestMark_ok hT1 hI.1.1 hM1 (by first | assumption | omega | (constructor <;> omega)) (by first | assumption | omega | (constructor <;> omega)) (by first | assumption | omega | (constructor <;> omega))) (e_x hM1))
    · skip
      exact pair_no hT hI ⟨by decide, by decide⟩ (z2 := _) (by first | exact R31_0 | exact bi_R _) (w_bestMark_x1 hT (c_X11_bestMark_b2 hT hI.1 (by first | assumption | omega | (constructor <;> omega)) (by first | assumption | omega | (constructor <;> omega)) (by first | assumption | omega | (constructor <;> omega)))) (fun x e kk _ => by rw [e]) (fun X1 h1 hT1 hM1 => mu_wk (c_X12_bestMark_b2 hT1 hI.1.1 hM1 (by first | assumption | omega | (constructor <;> omega)) (by first | assumption | omega | (constructor <;> omega)) (by first | assumption | omega | (constructor <;> omega))) (e_x hM1))
  · skip
    exact pair_no hT hI ⟨by decide, by decide⟩ (z2 := _) (by first | exact R31_0 | exact bi_R _) (w_bestMark_x1 hT (c_X11_bestMark_b1 hT hI.1 (by first | assumption | omega | (constructor <;> omega)) (by first | assumption | omega | (constructor <;> omega)) (by first | assumption | omega | (constructor <;> omega)))) (fun x e kk _ => by rw [e]) (fun X1 h1 hT1 hM1 => mu_wk (c_X12_bestMark_b1 hT1 hI.1.1 hM1 (by first | assumption | omega | (constructor <;> omega)) (by first | assumption | omega | (constructor <;> omega)) (by first | assumption | omega | (constructor <;> omega))) (e_x hM1))
set_option maxHeartbeats 2000000 in
theorem pr_placeOf {g : Gt} {α : AL} {ν : Nat → Nat → Bool} {X : XM} {h : AH} {k : Int} (hT : TR g α ν X h) (hI : INV k ν X) {a0 : Int} (ha0 : R31 a0) {a1 : Int} (ha1 : R31 a1) : PAIR g α ν X h k TZ M_L_placeOf M_X12_placeOf [.int (J a0), .int (J a1)] := by
  have qc := wo_nC hI.1.1
  have qs := wo_nS hI.1.1
  have qf := wo_nF hI.1.1
  have qr := wo_nR hI.1.1
  have qd := wo_day hI.1.1
  by_cases hn0 : 0 ≤ a0 ∧ a0 < nS X
  · skip
    obtain ⟨s, rfl⟩ : ∃ z : Nat, a0 = (z : Int) := ⟨a0.toNat, by omega⟩
    have hs0 : (s : Int) < nS X := by omega
    by_cases hn1 : 0 ≤ a1 ∧ a1 < nC X
    · skip
      obtain ⟨c, rfl⟩ : ∃ z : Nat, a1 = (z : Int) := ⟨a1.toNat, by omega⟩
      have hc0 : (c : Int) < nC X := by omega
      by_cases hb : place X c s = -1
      · skip
        exact pair_no hT hI ⟨by decide, by decide⟩ (z2 := _) (by first | exact R31_0 | exact bi_R _) (w_placeOf_x2 hT (c_X11_placeOf_x2 hT hI.1 (by first | assumption | omega | (constructor <;> omega)) (by first | assumption | omega | (constructor <;> omega)) (by first | assumption | omega | (constructor <;> omega)))) (fun x e kk _ => by rw [e]) (fun X1 h1 hT1 hM1 => mu_wk (c_X12_placeOf_x2 hT1 hI.1.1 hM1 (by first | assumption | omega | (constructor <;> omega)) (by first | assumption | omega | (constructor <;> omega)) (by first | assumption | omega | (constructor <;> omega))) (e_x hM1))
      · skip
        have ql := place_R hI.1.1 hc0 s
        exact pair_as hT hI (⟨by omega, by omega⟩) (w_placeOf_ok hT (⟨by omega, by omega⟩) (fun a n x q => by rw [q.1]) (al_of_pr hT (c_X11_placeOf_ok hT hI.1 (by first | assumption | omega | (constructor <;> omega)) (by first | assumption | omega | (constructor <;> omega)) (by first | assumption | omega | (constructor <;> omega))))) (fun x e kk _ => by rw [e]) (fun X1 h1 hT1 hM1 => mu_wk (c_X12_placeOf_ok hT1 hI.1.1 hM1 (by first | assumption | omega | (constructor <;> omega)) (by first | assumption | omega | (constructor <;> omega)) (by first | assumption | omega | (constructor <;> omega))) (e_x hM1))
    · skip
      exact pair_no hT hI ⟨by decide, by decide⟩ (z2 := _) (by first | exact R31_0 | exact bi_R _) (w_placeOf_x1 hT (c_X11_placeOf_b2 hT hI.1 (by first | assumption | omega | (constructor <;> omega)) (by first | assumption | omega | (constructor <;> omega)) (by first | assumption | omega | (constructor <;> omega)))) (fun x e kk _ => by rw [e]) (fun X1 h1 hT1 hM1 => mu_wk (c_X12_placeOf_b2 hT1 hI.1.1 hM1 (by first | assumption | omega | (constructor <;> omega)) (by first | assumption | omega | (constructor <;> omega)) (by first | assumption | omega | (constructor <;> omega))) (e_x hM1))
  · skip
    exact pair_no hT hI ⟨by decide, by decide⟩ (z2 := _) (by first | exact R31_0 | exact bi_R _) (w_placeOf_x1 hT (c_X11_placeOf_b1 hT hI.1 (by first | assumption | omega | (constructor <;> omega)) (by first | assumption | omega | (constructor <;> omega)) (by first | assumption | omega | (constructor <;> omega)))) (fun x e kk _ => by rw [e]) (fun X1 h1 hT1 hM1 => mu_wk (c_X12_placeOf_b1 hT1 hI.1.1 hM1 (by first | assumption | omega | (constructor <;> omega)) (by first | assumption | omega | (constructor <;> omega)) (by first | assumption | omega | (constructor <;> omega))) (e_x hM1))
set_option maxHeartbeats 2000000 in
theorem pr_freeSeats {g : Gt} {α : AL} {ν : Nat → Nat → Bool} {X : XM} {h : AH} {k : Int} (hT : TR g α ν X h) (hI : INV k ν X) {a0 : Int} (ha0 : R31 a0) {a1 : Int} (ha1 : R31 a1) : PAIR g α ν X h k TZ M_L_freeSeats M_X12_freeSeats [.int (J a0), .int (J a1)] := by
  have qc := wo_nC hI.1.1
  have qs := wo_nS hI.1.1
  have qf := wo_nF hI.1.1
  have qr := wo_nR hI.1.1
  have qd := wo_day hI.1.1
  by_cases hn0 : 0 ≤ a0 ∧ a0 < nC X
  · skip
    obtain ⟨c, rfl⟩ : ∃ z : Nat, a0 = (z : Int) := ⟨a0.toNat, by omega⟩
    have hc0 : (c : Int) < nC X := by omega
    by_cases hm : 0 ≤ a1 ∧ a1 ≤ 3
    · skip
      have ql := free_0 hI.1.1 hc0 a1
      exact pair_as hT hI (⟨by omega, by omega⟩) (w_freeSeats_ok hT (⟨by omega, by omega⟩) (fun a n x q => by rw [q.1]) (al_of_pr hT (c_X11_freeSeats_ok hT hI.1 (by first | assumption | omega | (constructor <;> omega)) (by first | assumption | omega | (constructor <;> omega)) (by first | assumption | omega | (constructor <;> omega))))) (fun x e kk _ => by rw [e]) (fun X1 h1 hT1 hM1 => mu_wk (c_X12_freeSeats_ok hT1 hI.1.1 hM1 (by first | assumption | omega | (constructor <;> omega)) (by first | assumption | omega | (constructor <;> omega)) (by first | assumption | omega | (constructor <;> omega))) (e_x hM1))
    · skip
      exact pair_no hT hI ⟨by decide, by decide⟩ (z2 := _) (by first | exact R31_0 | exact bi_R _) (w_freeSeats_x2 hT (c_X11_freeSeats_x2 hT hI.1 (by first | assumption | omega | (constructor <;> omega)) (by first | assumption | omega | (constructor <;> omega)) (by first | assumption | omega | (constructor <;> omega)))) (fun x e kk _ => by rw [e]) (fun X1 h1 hT1 hM1 => mu_wk (c_X12_freeSeats_x2 hT1 hI.1.1 hM1 (by first | assumption | omega | (constructor <;> omega)) (by first | assumption | omega | (constructor <;> omega)) (by first | assumption | omega | (constructor <;> omega))) (e_x hM1))
  · skip
    exact pair_no hT hI ⟨by decide, by decide⟩ (z2 := _) (by first | exact R31_0 | exact bi_R _) (w_freeSeats_x1 hT (c_X11_freeSeats_b1 hT hI.1 (by first | assumption | omega | (constructor <;> omega)) (by first | assumption | omega | (constructor <;> omega)) (by first | assumption | omega | (constructor <;> omega)))) (fun x e kk _ => by rw [e]) (fun X1 h1 hT1 hM1 => mu_wk (c_X12_freeSeats_b1 hT1 hI.1.1 hM1 (by first | assumption | omega | (constructor <;> omega)) (by first | assumption | omega | (constructor <;> omega)) (by first | assumption | omega | (constructor <;> omega))) (e_x hM1))
set_option maxHeartbeats 2000000 in
theorem pr_whyNot {g : Gt} {α : AL} {ν : Nat → Nat → Bool} {X : XM} {h : AH} {k : Int} (hT : TR g α ν X h) (hI : INV k ν X) {a0 : Int} (ha0 : R31 a0) {a1 : Int} (ha1 : R31 a1) : PAIR g α ν X h k TZ M_L_whyNot M_X12_whyNot [.int (J a0), .int (J a1)] := by
  have qc := wo_nC hI.1.1
  have qs := wo_nS hI.1.1
  have qf := wo_nF hI.1.1
  have qr := wo_nR hI.1.1
  have qd := wo_day hI.1.1
  by_cases hn0 : 0 ≤ a0 ∧ a0 < nS X
  · skip
    obtain ⟨s, rfl⟩ : ∃ z : Nat, a0 = (z : Int) := ⟨a0.toNat, by omega⟩
    have hs0 : (s : Int) < nS X := by omega
    by_cases hn1 : 0 ≤ a1 ∧ a1 < nC X
    · skip
      obtain ⟨c, rfl⟩ : ∃ z : Nat, a1 = (z : Int) := ⟨a1.toNat, by omega⟩
      have hc0 : (c : Int) < nC X := by omega
      by_cases hq : X 12 c 5 = -1
      · skip
        exact pair_no hT hI ⟨by decide, by decide⟩ (z2 := _) (by first | exact R31_0 | exact bi_R _) (w_whyNot_x2 hT (c_X11_whyNot_x2 hT hI.1 (by first | assumption | omega | (constructor <;> omega)) (by first | assumption | omega | (constructor <;> omega)) (by first | assumption | omega | (constructor <;> omega)))) (fun x e kk _ => by rw [e]) (fun X1 h1 hT1 hM1 => mu_wk (c_X12_whyNot_x2 hT1 hI.1.1 hM1 (by first | assumption | omega | (constructor <;> omega)) (by first | assumption | omega | (constructor <;> omega)) (by first | assumption | omega | (constructor <;> omega))) (e_x hM1))
      · skip
        by_cases hh : hol X s (X 12 c 5).toNat = true
        · skip
          have hq : X 12 c 5 ≠ -1 := hq
          exact pair_no hT hI ⟨by decide, by decide⟩ (z2 := _) (by first | exact R31_0 | exact bi_R _) (w_whyNot_x3 hT (c_X11_whyNot_x3 hT hI.1 (by first | assumption | omega | (constructor <;> omega)) (by first | assumption | omega | (constructor <;> omega)) (by first | assumption | omega | (constructor <;> omega)) (by first | assumption | omega | (constructor <;> omega)))) (fun x e kk _ => by rw [e]) (fun X1 h1 hT1 hM1 => mu_wk (c_X12_whyNot_x3 hT1 hI.1.1 hM1 (by first | assumption | omega | (constructor <;> omega)) (by first | assumption | omega | (constructor <;> omega)) (by first | assumption | omega | (constructor <;> omega)) (by first | assumption | omega | (constructor <;> omega))) (e_x hM1))
        · skip
          have hq : X 12 c 5 ≠ -1 := hq
          have hh : hol X s (X 12 c 5).toNat = false := by simpa using hh
          have q12 := wo_req hI.1.1 c hc0
          have ql := rsn_R hI.1.1 s 6 (X 12 c 5).toNat (by omega)
          have ql2 : (rsnC X s c).1 ≤ 7 ∧ (rsnC X s c).2 ≤ (X 12 c 5).toNat := ql
          exact pair_as hT hI (⟨by omega, by omega⟩) (w_whyNot_ok hT (⟨by omega, by omega⟩) (fun a n x q => by rw [q.1]) (al_of_mu (c_X11_whyNot_ok hT hI.1 (by first | assumption | omega | (constructor <;> omega)) (by first | assumption | omega | (constructor <;> omega)) (by first | assumption | omega | (constructor <;> omega)) (by first | assumption | omega | (constructor <;> omega))))) (fun x e kk q => e kk (by omega)) (fun X1 h1 hT1 hM1 => mu_wk (c_X12_whyNot_ok hT1 hI.1.1 hM1 (by first | assumption | omega | (constructor <;> omega)) (by first | assumption | omega | (constructor <;> omega)) (by first | assumption | omega | (constructor <;> omega)) (by first | assumption | omega | (constructor <;> omega))) (e_w (by omega) hM1))
    · skip
      exact pair_no hT hI ⟨by decide, by decide⟩ (z2 := _) (by first | exact R31_0 | exact bi_R _) (w_whyNot_x1 hT (c_X11_whyNot_b2 hT hI.1 (by first | assumption | omega | (constructor <;> omega)) (by first | assumption | omega | (constructor <;> omega)) (by first | assumption | omega | (constructor <;> omega)))) (fun x e kk _ => by rw [e]) (fun X1 h1 hT1 hM1 => mu_wk (c_X12_whyNot_b2 hT1 hI.1.1 hM1 (by first | assumption | omega | (constructor <;> omega)) (by first | assumption | omega | (constructor <;> omega)) (by first | assumption | omega | (constructor <;> omega))) (e_x hM1))
  · skip
    exact pair_no hT hI ⟨by decide, by decide⟩ (z2 := _) (by first | exact R31_0 | exact bi_R _) (w_whyNot_x1 hT (c_X11_whyNot_b1 hT hI.1 (by first | assumption | omega | (constructor <;> omega)) (by first | assumption | omega | (constructor <;> omega)) (by first | assumption | omega | (constructor <;> omega)))) (fun x e kk _ => by rw [e]) (fun X1 h1 hT1 hM1 => mu_wk (c_X12_whyNot_b1 hT1 hI.1.1 hM1 (by first | assumption | omega | (constructor <;> omega)) (by first | assumption | omega | (constructor <;> omega)) (by first | assumption | omega | (constructor <;> omega))) (e_x hM1))
set_option maxHeartbeats 2000000 in
theorem pr_whyLong {g : Gt} {α : AL} {ν : Nat → Nat → Bool} {X : XM} {h : AH} {k : Int} (hT : TR g α ν X h) (hI : INV k ν X) {a0 : Int} (ha0 : R31 a0) {a1 : Int} (ha1 : R31 a1) : PAIR g α ν X h k TZ M_L_whyLong M_X12_whyLong [.int (J a0), .int (J a1)] := by
  have qc := wo_nC hI.1.1
  have qs := wo_nS hI.1.1
  have qf := wo_nF hI.1.1
  have qr := wo_nR hI.1.1
  have qd := wo_day hI.1.1
  by_cases hn0 : 0 ≤ a0 ∧ a0 < nS X
  · skip
    obtain ⟨s, rfl⟩ : ∃ z : Nat, a0 = (z : Int) := ⟨a0.toNat, by omega⟩
    have hs0 : (s : Int) < nS X := by omega
    by_cases hn1 : 0 ≤ a1 ∧ a1 < nC X
    · skip
      obtain ⟨c, rfl⟩ : ∃ z : Nat, a1 = (z : Int) := ⟨a1.toNat, by omega⟩
      have hc0 : (c : Int) < nC X := by omega
      by_cases hq : X 12 c 5 = -1
      · skip
        exact pair_no hT hI ⟨by decide, by decide⟩ (z2 := _) (by first | exact R31_0 | exact bi_R _) (w_whyLong_x2 hT (c_X11_whyLong_x2 hT hI.1 (by first | assumption | omega | (constructor <;> omega)) (by first | assumption | omega | (constructor <;> omega)) (by first | assumption | omega | (constructor <;> omega)))) (fun x e kk _ => by rw [e]) (fun X1 h1 hT1 hM1 => mu_wk (c_X12_whyLong_x2 hT1 hI.1.1 hM1 (by first | assumption | omega | (constructor <;> omega)) (by first | assumption | omega | (constructor <;> omega)) (by first | assumption | omega | (constructor <;> omega))) (e_x hM1))
      · skip
        by_cases hh : hol X s (X 12 c 5).toNat = true
        · skip
          have hq : X 12 c 5 ≠ -1 := hq
          exact pair_no hT hI ⟨by decide, by decide⟩ (z2 := _) (by first | exact R31_0 | exact bi_R _) (w_whyLong_x3 hT (c_X11_whyLong_x3 hT hI.1 (by first | assumption | omega | (constructor <;> omega)) (by first | assumption | omega | (constructor <;> omega)) (by first | assumption | omega | (constructor <;> omega)) (by first | assumption | omega | (constructor <;> omega)))) (fun x e kk _ => by rw [e]) (fun X1 h1 hT1 hM1 => mu_wk (c_X12_whyLong_x3 hT1 hI.1.1 hM1 (by first | assumption | omega | (constructor <;> omega)) (by first | assumption | omega | (constructor <;> omega)) (by first | assumption | omega | (constructor <;> omega)) (by first | assumption | omega | (constructor <;> omega))) (e_x hM1))
        · skip
          have hq : X 12 c 5 ≠ -1 := hq
          have hh : hol X s (X 12 c 5).toNat = false := by simpa using hh
          have q12 := wo_req hI.1.1 c hc0
          have ql := rsn_R hI.1.1 s 6 (X 12 c 5).toNat (by omega)
          have ql2 : (rsnC X s c).1 ≤ 7 ∧ (rsnC X s c).2 ≤ (X 12 c 5).toNat := ql
          exact pair_as hT hI (⟨by omega, by omega⟩) (w_whyLong_ok hT (⟨by omega, by omega⟩) (fun a n x q => by rw [q.1]) (al_of_mu (c_X11_whyLong_ok hT hI.1 (by first | assumption | omega | (constructor <;> omega)) (by first | assumption | omega | (constructor <;> omega)) (by first | assumption | omega | (constructor <;> omega)) (by first | assumption | omega | (constructor <;> omega))))) (fun x e kk q => e kk (by omega)) (fun X1 h1 hT1 hM1 => mu_wk (c_X12_whyLong_ok hT1 hI.1.1 hM1 (by first | assumption | omega | (constructor <;> omega)) (by first | assumption | omega | (constructor <;> omega)) (by first | assumption | omega | (constructor <;> omega)) (by first | assumption | omega | (constructor <;> omega))) (e_w (by omega) hM1))
    · skip
      exact pair_no hT hI ⟨by decide, by decide⟩ (z2 := _) (by first | exact R31_0 | exact bi_R _) (w_whyLong_x1 hT (c_X11_whyLong_b2 hT hI.1 (by first | assumption | omega | (constructor <;> omega)) (by first | assumption | omega | (constructor <;> omega)) (by first | assumption | omega | (constructor <;> omega)))) (fun x e kk _ => by rw [e]) (fun X1 h1 hT1 hM1 => mu_wk (c_X12_whyLong_b2 hT1 hI.1.1 hM1 (by first | assumption | omega | (constructor <;> omega)) (by first | assumption | omega | (constructor <;> omega)) (by first | assumption | omega | (constructor <;> omega))) (e_x hM1))
  · skip
    exact pair_no hT hI ⟨by decide, by decide⟩ (z2 := _) (by first | exact R31_0 | exact bi_R _) (w_whyLong_x1 hT (c_X11_whyLong_b1 hT hI.1 (by first | assumption | omega | (constructor <;> omega)) (by first | assumption | omega | (constructor <;> omega)) (by first | assumption | omega | (constructor <;> omega)))) (fun x e kk _ => by rw [e]) (fun X1 h1 hT1 hM1 => mu_wk (c_X12_whyLong_b1 hT1 hI.1.1 hM1 (by first | assumption | omega | (constructor <;> omega)) (by first | assumption | omega | (constructor <;> omega)) (by first | assumption | omega | (constructor <;> omega))) (e_x hM1))
set_option maxHeartbeats 2000000 in
theorem pr_transcriptLength {g : Gt} {α : AL} {ν : Nat → Nat → Bool} {X : XM} {h : AH} {k : Int} (hT : TR g α ν X h) (hI : INV k ν X) {a0 : Int} (ha0 : R31 a0) : PAIR g α ν X h k TZ M_L_transcriptLength M_X12_transcriptLength [.int (J a0)] := by
  have qc := wo_nC hI.1.1
  have qs := wo_nS hI.1.1
  have qf := wo_nF hI.1.1
  have qr := wo_nR hI.1.1
  have qd := wo_day hI.1.1
  by_cases hn0 : 0 ≤ a0 ∧ a0 < nS X
  · skip
    obtain ⟨s, rfl⟩ : ∃ z : Nat, a0 = (z : Int) := ⟨a0.toNat, by omega⟩
    have hs0 : (s : Int) < nS X := by omega
    have ql := allL_n hI.1.1 hs0 (nC X).toNat (by omega)
    exact pair_as hT hI (⟨by omega, by omega⟩) (w_transcriptLength_ok hT (⟨by omega, by omega⟩) (fun a n x q => by rw [q.1]) (al_of_mu (c_X11_transcriptLength_ok hT hI.1 (by first | assumption | omega | (constructor <;> omega))))) (fun x e kk q => e.1 kk (by omega) (by omega)) (fun X1 h1 hT1 hM1 => mu_wk (c_X12_transcriptLength_ok hT1 hI.1.1 hM1 (by first | assumption | omega | (constructor <;> omega))) (fun x q => q))
  · skip
    exact pair_no hT hI ⟨by decide, by decide⟩ (z2 := _) (by first | exact R31_0 | exact bi_R _) (w_transcriptLength_x1 hT (c_X11_transcriptLength_b1 hT hI.1 (by first | assumption | omega | (constructor <;> omega)) (by first | assumption | omega | (constructor <;> omega)))) (fun x e kk _ => by rw [e]) (fun X1 h1 hT1 hM1 => mu_wk (c_X12_transcriptLength_b1 hT1 hI.1.1 hM1 (by first | assumption | omega | (constructor <;> omega)) (by first | assumption | omega | (constructor <;> omega))) (e_x hM1))
set_option maxHeartbeats 2000000 in
theorem pr_mostMet {g : Gt} {α : AL} {ν : Nat → Nat → Bool} {X : XM} {h : AH} {k : Int} (hT : TR g α ν X h) (hI : INV k ν X) {a0 : Int} (ha0 : R31 a0) : PAIR g α ν X h k TZ M_L_mostMet M_X12_mostMet [.int (J a0)] := by
  have qc := wo_nC hI.1.1
  have qs := wo_nS hI.1.1
  have qf := wo_nF hI.1.1
  have qr := wo_nR hI.1.1
  have qd := wo_day hI.1.1
  by_cases hn0 : 0 ≤ a0 ∧ a0 < nS X
  · skip
    obtain ⟨s, rfl⟩ : ∃ z : Nat, a0 = (z : Int) := ⟨a0.toNat, by omega⟩
    have hs0 : (s : Int) < nS X := by omega
    have ql := mstV_R hI.1.1 s false
    exact pair_as hT hI (⟨by omega, by omega⟩) (w_mostMet_ok hT (⟨by omega, by omega⟩) (fun a n x q => by rw [q.1]) (al_of_mu (c_X11_mostMet_ok hT hI.1 (by first | assumption | omega | (constructor <;> omega))))) (fun x e kk q => e kk (by omega)) (fun X1 h1 hT1 hM1 => mu_wk (c_X12_mostMet_ok hT1 hI.1.1 hM1 (by first | assumption | omega | (constructor <;> omega))) (fun x q => q))
  · skip
    exact pair_no hT hI ⟨by decide, by decide⟩ (z2 := _) (by first | exact R31_0 | exact bi_R _) (w_mostMet_x1 hT (c_X11_mostMet_b1 hT hI.1 (by first | assumption | omega | (constructor <;> omega)) (by first | assumption | omega | (constructor <;> omega)))) (fun x e kk _ => by rw [e]) (fun X1 h1 hT1 hM1 => mu_wk (c_X12_mostMet_b1 hT1 hI.1.1 hM1 (by first | assumption | omega | (constructor <;> omega)) (by first | assumption | omega | (constructor <;> omega))) (e_x hM1))
set_option maxHeartbeats 2000000 in
theorem pr_mostMetByTrial {g : Gt} {α : AL} {ν : Nat → Nat → Bool} {X : XM} {h : AH} {k : Int} (hT : TR g α ν X h) (hI : INV k ν X) {a0 : Int} (ha0 : R31 a0) : PAIR g α ν X h k TZ M_L_mostMetByTrial M_X12_mostMetByTrial [.int (J a0)] := by
  have qc := wo_nC hI.1.1
  have qs := wo_nS hI.1.1
  have qf := wo_nF hI.1.1
  have qr := wo_nR hI.1.1
  have qd := wo_day hI.1.1
  by_cases hn0 : 0 ≤ a0 ∧ a0 < nS X
  · skip
    obtain ⟨s, rfl⟩ : ∃ z : Nat, a0 = (z : Int) := ⟨a0.toNat, by omega⟩
    have hs0 : (s : Int) < nS X := by omega
    have ql := mstV_R hI.1.1 s false
    exact pair_as hT hI (⟨by omega, by omega⟩) (w_mostMetByTrial_ok hT (⟨by omega, by omega⟩) (fun a n x q => by rw [q.1]) (al_of_mu (c_X11_mostMetByTrial_ok hT hI.1 (by first | assumption | omega | (constructor <;> omega))))) (fun x e kk q => e kk (by omega)) (fun X1 h1 hT1 hM1 => mu_wk (c_X12_mostMetByTrial_ok hT1 hI.1.1 hM1 (by first | assumption | omega | (constructor <;> omega))) (fun x q => q))
  · skip
    exact pair_no hT hI ⟨by decide, by decide⟩ (z2 := _) (by first | exact R31_0 | exact bi_R _) (w_mostMetByTrial_x1 hT (c_X11_mostMetByTrial_b1 hT hI.1 (by first | assumption | omega | (constructor <;> omega)) (by first | assumption | omega | (constructor <;> omega)))) (fun x e kk _ => by rw [e]) (fun X1 h1 hT1 hM1 => mu_wk (c_X12_mostMetByTrial_b1 hT1 hI.1.1 hM1 (by first | assumption | omega | (constructor <;> omega)) (by first | assumption | omega | (constructor <;> omega))) (e_x hM1))
set_option maxHeartbeats 2000000 in
theorem pr_mostMetIf {g : Gt} {α : AL} {ν : Nat → Nat → Bool} {X : XM} {h : AH} {k : Int} (hT : TR g α ν X h) (hI : INV k ν X) {a0 : Int} (ha0 : R31 a0) : PAIR g α ν X h k TZ M_L_mostMetIf M_X12_mostMetIf [.int (J a0)] := by
  have qc := wo_nC hI.1.1
  have qs := wo_nS hI.1.1
  have qf := wo_nF hI.1.1
  have qr := wo_nR hI.1.1
  have qd := wo_day hI.1.1
  by_cases hn0 : 0 ≤ a0 ∧ a0 < nS X
  · skip
    obtain ⟨s, rfl⟩ : ∃ z : Nat, a0 = (z : Int) := ⟨a0.toNat, by omega⟩
    have hs0 : (s : Int) < nS X := by omega
    have ql := mstV_R hI.1.1 s true
    exact pair_as hT hI (⟨by omega, by omega⟩) (w_mostMetIf_ok hT (⟨by omega, by omega⟩) (fun a n x q => by rw [q.1]) (al_of_mu (c_X11_mostMetIf_ok hT hI.1 (by first | assumption | omega | (constructor <;> omega))))) (fun x e kk q => e kk (by omega)) (fun X1 h1 hT1 hM1 => mu_wk (c_X12_mostMetIf_ok hT1 hI.1.1 hM1 (by first | assumption | omega | (constructor <;> omega))) (fun x q => q))
  · skip
    exact pair_no hT hI ⟨by decide, by decide⟩ (z2 := _) (by first | exact R31_0 | exact bi_R _) (w_mostMetIf_x1 hT (c_X11_mostMetIf_b1 hT hI.1 (by first | assumption | omega | (constructor <;> omega)) (by first | assumption | omega | (constructor <;> omega)))) (fun x e kk _ => by rw [e]) (fun X1 h1 hT1 hM1 => mu_wk (c_X12_mostMetIf_b1 hT1 hI.1.1 hM1 (by first | assumption | omega | (constructor <;> omega)) (by first | assumption | omega | (constructor <;> omega))) (e_x hM1))
set_option maxHeartbeats 2000000 in
theorem pr_lackingRules {g : Gt} {α : AL} {ν : Nat → Nat → Bool} {X : XM} {h : AH} {k : Int} (hT : TR g α ν X h) (hI : INV k ν X) {a0 : Int} (ha0 : R31 a0) : PAIR g α ν X h k TZ M_L_lackingRules M_X12_lackingRules [.int (J a0)] := by
  have qc := wo_nC hI.1.1
  have qs := wo_nS hI.1.1
  have qf := wo_nF hI.1.1
  have qr := wo_nR hI.1.1
  have qd := wo_day hI.1.1
  by_cases hn0 : 0 ≤ a0 ∧ a0 < nS X
  · skip
    obtain ⟨s, rfl⟩ : ∃ z : Nat, a0 = (z : Int) := ⟨a0.toNat, by omega⟩
    have hs0 : (s : Int) < nS X := by omega
    have ql : lckV X s < 65536 := lckV_lt hI.1.1 s _ (Nat.le_refl _)
    exact pair_as hT hI (⟨by omega, by omega⟩) (w_lackingRules_ok hT (⟨by omega, by omega⟩) (fun a n x q => by rw [q.1]) (al_of_mu (c_X11_lackingRules_ok hT hI.1 (by first | assumption | omega | (constructor <;> omega))))) (fun x e kk q => e kk (by omega)) (fun X1 h1 hT1 hM1 => mu_wk (c_X12_lackingRules_ok hT1 hI.1.1 hM1 (by first | assumption | omega | (constructor <;> omega))) (fun x q => q))
  · skip
    exact pair_no hT hI ⟨by decide, by decide⟩ (z2 := _) (by first | exact R31_0 | exact bi_R _) (w_lackingRules_x1 hT (c_X11_lackingRules_b1 hT hI.1 (by first | assumption | omega | (constructor <;> omega)) (by first | assumption | omega | (constructor <;> omega)))) (fun x e kk _ => by rw [e]) (fun X1 h1 hT1 hM1 => mu_wk (c_X12_lackingRules_b1 hT1 hI.1.1 hM1 (by first | assumption | omega | (constructor <;> omega)) (by first | assumption | omega | (constructor <;> omega))) (e_x hM1))
set_option maxHeartbeats 2000000 in
theorem pr_lackingByTrial {g : Gt} {α : AL} {ν : Nat → Nat → Bool} {X : XM} {h : AH} {k : Int} (hT : TR g α ν X h) (hI : INV k ν X) {a0 : Int} (ha0 : R31 a0) : PAIR g α ν X h k TZ M_L_lackingByTrial M_X12_lackingByTrial [.int (J a0)] := by
  have qc := wo_nC hI.1.1
  have qs := wo_nS hI.1.1
  have qf := wo_nF hI.1.1
  have qr := wo_nR hI.1.1
  have qd := wo_day hI.1.1
  by_cases hn0 : 0 ≤ a0 ∧ a0 < nS X
  · skip
    obtain ⟨s, rfl⟩ : ∃ z : Nat, a0 = (z : Int) := ⟨a0.toNat, by omega⟩
    have hs0 : (s : Int) < nS X := by omega
    have ql : lckV X s < 65536 := lckV_lt hI.1.1 s _ (Nat.le_refl _)
    exact pair_as hT hI (⟨by omega, by omega⟩) (w_lackingByTrial_ok hT (⟨by omega, by omega⟩) (fun a n x q => by rw [q.1]) (al_of_mu (c_X11_lackingByTrial_ok hT hI.1 (by first | assumption | omega | (constructor <;> omega))))) (fun x e kk q => e kk (by omega)) (fun X1 h1 hT1 hM1 => mu_wk (c_X12_lackingByTrial_ok hT1 hI.1.1 hM1 (by first | assumption | omega | (constructor <;> omega))) (fun x q => q))
  · skip
    exact pair_no hT hI ⟨by decide, by decide⟩ (z2 := _) (by first | exact R31_0 | exact bi_R _) (w_lackingByTrial_x1 hT (c_X11_lackingByTrial_b1 hT hI.1 (by first | assumption | omega | (constructor <;> omega)) (by first | assumption | omega | (constructor <;> omega)))) (fun x e kk _ => by rw [e]) (fun X1 h1 hT1 hM1 => mu_wk (c_X12_lackingByTrial_b1 hT1 hI.1.1 hM1 (by first | assumption | omega | (constructor <;> omega)) (by first | assumption | omega | (constructor <;> omega))) (e_x hM1))
set_option maxHeartbeats 2000000 in
theorem pr_canGraduate {g : Gt} {α : AL} {ν : Nat → Nat → Bool} {X : XM} {h : AH} {k : Int} (hT : TR g α ν X h) (hI : INV k ν X) {a0 : Int} (ha0 : R31 a0) : PAIR g α ν X h k BZ M_L_canGraduate M_X12_canGraduate [.int (J a0)] := by
  have qc := wo_nC hI.1.1
  have qs := wo_nS hI.1.1
  have qf := wo_nF hI.1.1
  have qr := wo_nR hI.1.1
  have qd := wo_day hI.1.1
  by_cases hn0 : 0 ≤ a0 ∧ a0 < nS X
  · skip
    obtain ⟨s, rfl⟩ : ∃ z : Nat, a0 = (z : Int) := ⟨a0.toNat, by omega⟩
    have hs0 : (s : Int) < nS X := by omega
    exact pair_as hT hI (bi_R _) (w_canGraduate_ok hT (fun a n x q => by rw [q.1]) (al_of_mu (c_X11_canGraduate_ok hT hI.1 (by first | assumption | omega | (constructor <;> omega))))) (fun x e kk q => e kk (by omega)) (fun X1 h1 hT1 hM1 => mu_wk (c_X12_canGraduate_ok hT1 hI.1.1 hM1 (by first | assumption | omega | (constructor <;> omega))) (fun x q => q))
  · skip
    exact pair_no hT hI ⟨by decide, by decide⟩ (z2 := _) (by first | exact R31_0 | exact bi_R _) (w_canGraduate_x1 hT (c_X11_canGraduate_b1 hT hI.1 (by first | assumption | omega | (constructor <;> omega)) (by first | assumption | omega | (constructor <;> omega)))) (fun x e kk _ => by rw [e]) (fun X1 h1 hT1 hM1 => mu_wk (c_X12_canGraduate_b1 hT1 hI.1.1 hM1 (by first | assumption | omega | (constructor <;> omega)) (by first | assumption | omega | (constructor <;> omega))) (e_x hM1))
set_option maxHeartbeats 2000000 in
theorem pr_changeMajor {g : Gt} {α : AL} {ν : Nat → Nat → Bool} {X : XM} {h : AH} {k : Int} (hT : TR g α ν X h) (hI : INV k ν X) {a0 : Int} (ha0 : R31 a0) {a1 : Int} (ha1 : R31 a1) : PAIR g α ν X h k TZ M_L_changeMajor M_X12_changeMajor [.int (J a0), .int (J a1)] := by
  have qc := wo_nC hI.1.1
  have qs := wo_nS hI.1.1
  have qf := wo_nF hI.1.1
  have qr := wo_nR hI.1.1
  have qd := wo_day hI.1.1
  by_cases hn0 : 0 ≤ a0 ∧ a0 < nS X
  · skip
    obtain ⟨s, rfl⟩ : ∃ z : Nat, a0 = (z : Int) := ⟨a0.toNat, by omega⟩
    have hs0 : (s : Int) < nS X := by omega
    by_cases hm : 0 ≤ a1 ∧ a1 ≤ 3
    · skip
      exact pair_op hT hI (hT.rng 4 s 0) (w_changeMajor_ok hT (hT.rng 4 s 0) (fun a n x q => by rw [q.1]) (al_of_mu (c_X11_changeMajor_ok hT hI.1 (by first | assumption | omega | (constructor <;> omega)) (by first | assumption | omega | (constructor <;> omega)) (by first | assumption | omega | (constructor <;> omega))))) ((kq_xs (by decide) (by decide) (by decide) (fun z => by cases z) (fun z => by cases z)).trans (kq_gv (wx_cm hI.1 hm).1)) (fun X1 h1 hT1 hM1 => mu_wk (c_X12_changeMajor_ok hT1 hI.1.1 hM1 (by first | assumption | omega | (constructor <;> omega)) (by first | assumption | omega | (constructor <;> omega)) (by first | assumption | omega | (constructor <;> omega))) (fun x q => q))
    · skip
      exact pair_no hT hI ⟨by decide, by decide⟩ (z2 := _) (by first | exact R31_0 | exact bi_R _) (w_changeMajor_x2 hT (c_X11_changeMajor_x2 hT hI.1 (by first | assumption | omega | (constructor <;> omega)) (by first | assumption | omega | (constructor <;> omega)) (by first | assumption | omega | (constructor <;> omega)))) (fun x e kk _ => by rw [e]) (fun X1 h1 hT1 hM1 => mu_wk (c_X12_changeMajor_x2 hT1 hI.1.1 hM1 (by first | assumption | omega | (constructor <;> omega)) (by first | assumption | omega | (constructor <;> omega)) (by first | assumption | omega | (constructor <;> omega))) (e_x hM1))
  · skip
    exact pair_no hT hI ⟨by decide, by decide⟩ (z2 := _) (by first | exact R31_0 | exact bi_R _) (w_changeMajor_x1 hT (c_X11_changeMajor_b1 hT hI.1 (by first | assumption | omega | (constructor <;> omega)) (by first | assumption | omega | (constructor <;> omega)) (by first | assumption | omega | (constructor <;> omega)))) (fun x e kk _ => by rw [e]) (fun X1 h1 hT1 hM1 => mu_wk (c_X12_changeMajor_b1 hT1 hI.1.1 hM1 (by first | assumption | omega | (constructor <;> omega)) (by first | assumption | omega | (constructor <;> omega)) (by first | assumption | omega | (constructor <;> omega))) (e_x hM1))
set_option maxHeartbeats 2000000 in
theorem pr_reserve {g : Gt} {α : AL} {ν : Nat → Nat → Bool} {X : XM} {h : AH} {k : Int} (hT : TR g α ν X h) (hI : INV k ν X) {a0 : Int} (ha0 : R31 a0) {a1 : Int} (ha1 : R31 a1) {a2 : Int} (ha2 : R31 a2) : PAIR g α ν X h k TZ M_L_reserve M_X12_reserve [.int (J a0), .int (J a1), .int (J a2)] := by
  have qc := wo_nC hI.1.1
  have qs := wo_nS hI.1.1
  have qf := wo_nF hI.1.1
  have qr := wo_nR hI.1.1
  have qd := wo_day hI.1.1
  by_cases hn0 : 0 ≤ a0 ∧ a0 < nC X
  · skip
    obtain ⟨c, rfl⟩ : ∃ z : Nat, a0 = (z : Int) := ⟨a0.toNat, by omega⟩
    have hc0 : (c : Int) < nC X := by omega
    by_cases hm : ¬ (0 ≤ a1 ∧ a1 ≤ 3) ∨ a2 < 0
    · skip
      exact pair_no hT hI ⟨by decide, by decide⟩ (z2 := _) (by first | exact R31_0 | exact bi_R _) (w_reserve_x2 hT (c_X11_reserve_x2 hT hI.1 (by first | assumption | omega | (constructor <;> omega)) (by first | assumption | omega | (constructor <;> omega)) (by first | assumption | omega | (constructor <;> omega)) (by first | assumption | omega | (constructor <;> omega)))) (fun x e kk _ => by rw [e]) (fun X1 h1 hT1 hM1 => mu_wk (c_X12_reserve_x2 hT1 hI.1.1 hM1 (by first | assumption | omega | (constructor <;> omega)) (by first | assumption | omega | (constructor <;> omega)) (by first | assumption | omega | (constructor <;> omega)) (by first | assumption | omega | (constructor <;> omega))) (e_x hM1))
    · skip
      have h0 : 0 ≤ a2 := by omega
      obtain ⟨m, rfl⟩ : ∃ z : Nat, a1 = (z : Int) := ⟨a1.toNat, by omega⟩
      have hm4 : m < 4 := by omega
      have q12 := wo_sea hI.1.1 c hc0
      have qz := rsO_R hI.1.1 hc0 m 4 (by omega)
      by_cases hn : a2 ≤ X 12 c 2 - rsO X c m 4
      · skip
        exact pair_op hT hI (hT.rng 13 c m) (w_reserve_ok hT (hT.rng 13 c m) (fun a n x q => by rw [q.1]) (al_of_mu (c_X11_reserve_ok hT hI.1 (by first | assumption | omega | (constructor <;> omega)) (by first | assumption | omega | (constructor <;> omega)) (by first | assumption | omega | (constructor <;> omega)) (by first | assumption | omega | (constructor <;> omega)) (by first | assumption | omega | (constructor <;> omega))))) ((kq_xs (by decide) (by decide) (by decide) (fun z => by cases z) (fun z => by cases z)).trans (kq_gv (wx_rs hI.1 (by omega)).1)) (fun X1 h1 hT1 hM1 => mu_wk (c_X12_reserve_ok hT1 hI.1.1 hM1 (by first | assumption | omega | (constructor <;> omega)) (by first | assumption | omega | (constructor <;> omega)) (by first | assumption | omega | (constructor <;> omega)) (by first | assumption | omega | (constructor <;> omega)) (by first | assumption | omega | (constructor <;> omega))) (fun x q => q))
      · skip
        exact pair_no hT hI ⟨by decide, by decide⟩ (z2 := _) (by first | exact R31_0 | exact bi_R _) (w_reserve_x3 hT (c_X11_reserve_x3 hT hI.1 (by first | assumption | omega | (constructor <;> omega)) (by first | assumption | omega | (constructor <;> omega)) (by first | assumption | omega | (constructor <;> omega)) (by first | assumption | omega | (constructor <;> omega)) (by first | assumption | omega | (constructor <;> omega)))) (fun x e kk _ => by rw [e]) (fun X1 h1 hT1 hM1 => mu_wk (c_X12_reserve_x3 hT1 hI.1.1 hM1 (by first | assumption | omega | (constructor <;> omega)) (by first | assumption | omega | (constructor <;> omega)) (by first | assumption | omega | (constructor <;> omega)) (by first | assumption | omega | (constructor <;> omega)) (by first | assumption | omega | (constructor <;> omega))) (e_x hM1))
  · skip
    exact pair_no hT hI ⟨by decide, by decide⟩ (z2 := _) (by first | exact R31_0 | exact bi_R _) (w_reserve_x1 hT (c_X11_reserve_b1 hT hI.1 (by first | assumption | omega | (constructor <;> omega)) (by first | assumption | omega | (constructor <;> omega)) (by first | assumption | omega | (constructor <;> omega)) (by first | assumption | omega | (constructor <;> omega)))) (fun x e kk _ => by rw [e]) (fun X1 h1 hT1 hM1 => mu_wk (c_X12_reserve_b1 hT1 hI.1.1 hM1 (by first | assumption | omega | (constructor <;> omega)) (by first | assumption | omega | (constructor <;> omega)) (by first | assumption | omega | (constructor <;> omega)) (by first | assumption | omega | (constructor <;> omega))) (e_x hM1))
set_option maxHeartbeats 2000000 in
theorem pr_require {g : Gt} {α : AL} {ν : Nat → Nat → Bool} {X : XM} {h : AH} {k : Int} (hT : TR g α ν X h) (hI : INV k ν X) {a0 : Int} (ha0 : R31 a0) {a1 : Int} (ha1 : R31 a1) : PAIR g α ν X h k BZ M_L_require M_X12_require [.int (J a0), .int (J a1)] := by
  have qc := wo_nC hI.1.1
  have qs := wo_nS hI.1.1
  have qf := wo_nF hI.1.1
  have qr := wo_nR hI.1.1
  have qd := wo_day hI.1.1
  by_cases hn0 : 0 ≤ a0 ∧ a0 < nC X
  · skip
    obtain ⟨c, rfl⟩ : ∃ z : Nat, a0 = (z : Int) := ⟨a0.toNat, by omega⟩
    have hc0 : (c : Int) < nC X := by omega
    by_cases hn1 : 0 ≤ a1 ∧ a1 < nF X
    · skip
      obtain ⟨f, rfl⟩ : ∃ z : Nat, a1 = (z : Int) := ⟨a1.toNat, by omega⟩
      have hf0 : (f : Int) < nF X := by omega
      exact pair_op hT hI (bi_R _) (w_require_ok hT (fun a n x q => by rw [q.1]) (al_of_mu (c_X11_require_ok hT hI.1 (by first | assumption | omega | (constructor <;> omega)) (by first | assumption | omega | (constructor <;> omega))))) ((kq_xs (by decide) (by decide) (by decide) (fun z => by cases z) (fun z => by cases z)).trans (kq_gv (wx_rq hI.1 ⟨by omega, hf0⟩).1)) (fun X1 h1 hT1 hM1 => mu_wk (c_X12_require_ok hT1 hI.1.1 hM1 (by first | assumption | omega | (constructor <;> omega)) (by first | assumption | omega | (constructor <;> omega))) (fun x q => q))
    · skip
      exact pair_no hT hI ⟨by decide, by decide⟩ (z2 := _) (by first | exact R31_0 | exact bi_R _) (w_require_x2 hT (c_X11_require_b2 hT hI.1 (by first | assumption | omega | (constructor <;> omega)) (by first | assumption | omega | (constructor <;> omega)) (by first | assumption | omega | (constructor <;> omega)))) (fun x e kk _ => by rw [e]) (fun X1 h1 hT1 hM1 => mu_wk (c_X12_require_b2 hT1 hI.1.1 hM1 (by first | assumption | omega | (constructor <;> omega)) (by first | assumption | omega | (constructor <;> omega)) (by first | assumption | omega | (constructor <;> omega))) (e_x hM1))
  · skip
    exact pair_no hT hI ⟨by decide, by decide⟩ (z2 := _) (by first | exact R31_0 | exact bi_R _) (w_require_x1 hT (c_X11_require_b1 hT hI.1 (by first | assumption | omega | (constructor <;> omega)) (by first | assumption | omega | (constructor <;> omega)) (by first | assumption | omega | (constructor <;> omega)))) (fun x e kk _ => by rw [e]) (fun X1 h1 hT1 hM1 => mu_wk (c_X12_require_b1 hT1 hI.1.1 hM1 (by first | assumption | omega | (constructor <;> omega)) (by first | assumption | omega | (constructor <;> omega)) (by first | assumption | omega | (constructor <;> omega))) (e_x hM1))
set_option maxHeartbeats 2000000 in
theorem pr_lift {g : Gt} {α : AL} {ν : Nat → Nat → Bool} {X : XM} {h : AH} {k : Int} (hT : TR g α ν X h) (hI : INV k ν X) {a0 : Int} (ha0 : R31 a0) : PAIR g α ν X h k BZ M_L_lift M_X12_lift [.int (J a0)] := by
  have qc := wo_nC hI.1.1
  have qs := wo_nS hI.1.1
  have qf := wo_nF hI.1.1
  have qr := wo_nR hI.1.1
  have qd := wo_day hI.1.1
  by_cases hn0 : 0 ≤ a0 ∧ a0 < nC X
  · skip
    obtain ⟨c, rfl⟩ : ∃ z : Nat, a0 = (z : Int) := ⟨a0.toNat, by omega⟩
    have hc0 : (c : Int) < nC X := by omega
    exact pair_op hT hI (bi_R _) (w_lift_ok hT (fun a n x q => by rw [q.1]) (al_of_mu (c_X11_lift_ok hT hI.1 (by first | assumption | omega | (constructor <;> omega))))) ((kq_xs (by decide) (by decide) (by decide) (fun z => by cases z) (fun z => by cases z)).trans (kq_gv (wx_rq hI.1 ⟨by omega, by omega⟩).1)) (fun X1 h1 hT1 hM1 => mu_wk (c_X12_lift_ok hT1 hI.1.1 hM1 (by first | assumption | omega | (constructor <;> omega))) (fun x q => q))
  · skip
    exact pair_no hT hI ⟨by decide, by decide⟩ (z2 := _) (by first | exact R31_0 | exact bi_R _) (w_lift_x1 hT (c_X11_lift_b1 hT hI.1 (by first | assumption | omega | (constructor <;> omega)) (by first | assumption | omega | (constructor <;> omega)))) (fun x e kk _ => by rw [e]) (fun X1 h1 hT1 hM1 => mu_wk (c_X12_lift_b1 hT1 hI.1.1 hM1 (by first | assumption | omega | (constructor <;> omega)) (by first | assumption | omega | (constructor <;> omega))) (e_x hM1))
set_option maxHeartbeats 2000000 in
theorem pr_pass {g : Gt} {α : AL} {ν : Nat → Nat → Bool} {X : XM} {h : AH} {k : Int} (hT : TR g α ν X h) (hI : INV k ν X) {a0 : Int} (ha0 : R31 a0) : PAIR g α ν X h k TZ M_L_pass M_X12_pass [.int (J a0)] := by
  have qc := wo_nC hI.1.1
  have qs := wo_nS hI.1.1
  have qf := wo_nF hI.1.1
  have qr := wo_nR hI.1.1
  have qd := wo_day hI.1.1
  by_cases hm : a0 < 1
  · skip
    exact pair_no hT hI ⟨by decide, by decide⟩ (z2 := _) (by first | exact R31_0 | exact bi_R _) (w_pass_x1 hT (c_X11_pass_x1 hT hI.1 (by first | assumption | omega | (constructor <;> omega)) (by first | assumption | omega | (constructor <;> omega)))) (fun x e kk _ => by rw [e]) (fun X1 h1 hT1 hM1 => mu_wk (c_X12_pass_x1 hT1 hI.1.1 hM1 (by first | assumption | omega | (constructor <;> omega)) (by first | assumption | omega | (constructor <;> omega))) (e_x hM1))
  · skip
    by_cases hm2 : 30 - X 0 0 5 < a0
    · skip
      exact pair_no hT hI ⟨by decide, by decide⟩ (z2 := _) (by first | exact R31_0 | exact bi_R _) (w_pass_x2 hT (c_X11_pass_x2 hT hI.1 (by first | assumption | omega | (constructor <;> omega)) (by first | assumption | omega | (constructor <;> omega)) (by first | assumption | omega | (constructor <;> omega)))) (fun x e kk _ => by rw [e]) (fun X1 h1 hT1 hM1 => mu_wk (c_X12_pass_x2 hT1 hI.1.1 hM1 (by first | assumption | omega | (constructor <;> omega)) (by first | assumption | omega | (constructor <;> omega)) (by first | assumption | omega | (constructor <;> omega))) (e_x hM1))
    · skip
      obtain ⟨n, rfl⟩ : ∃ z : Nat, a0 = (z : Int) := ⟨a0.toNat, by omega⟩
      exact pair_op hT hI (⟨by omega, by omega⟩) (w_pass_ok hT (⟨by omega, by omega⟩) (fun a n x q => by rw [q.1]) (al_of_mu (c_X11_pass_ok hT hI.1 (by first | assumption | omega | (constructor <;> omega)) (by first | assumption | omega | (constructor <;> omega))))) (kq_psN hI.1.1 n (by omega)) (fun X1 h1 hT1 hM1 => mu_wk (c_X12_pass_ok hT1 hI.1.1 hM1 (by first | assumption | omega | (constructor <;> omega)) (by first | assumption | omega | (constructor <;> omega))) (fun x q => q))
set_option maxHeartbeats 2000000 in
theorem pr_mark {g : Gt} {α : AL} {ν : Nat → Nat → Bool} {X : XM} {h : AH} {k : Int} (hT : TR g α ν X h) (hI : INV k ν X) {a0 : Int} (ha0 : R31 a0) {a1 : Int} (ha1 : R31 a1) {a2 : Int} (ha2 : R31 a2) : PAIR g α ν X h k BZ M_L_mark M_X12_mark [.int (J a0), .int (J a1), .int (J a2)] := by
  have qc := wo_nC hI.1.1
  have qs := wo_nS hI.1.1
  have qf := wo_nF hI.1.1
  have qr := wo_nR hI.1.1
  have qd := wo_day hI.1.1
  by_cases hn0 : 0 ≤ a0 ∧ a0 < nS X
  · skip
    obtain ⟨s, rfl⟩ : ∃ z : Nat, a0 = (z : Int) := ⟨a0.toNat, by omega⟩
    have hs0 : (s : Int) < nS X := by omega
    by_cases hn1 : 0 ≤ a1 ∧ a1 < nC X
    · skip
      obtain ⟨c, rfl⟩ : ∃ z : Nat, a1 = (z : Int) := ⟨a1.toNat, by omega⟩
      have hc0 : (c : Int) < nC X := by omega
      by_cases ht : tak X s c = true
      · skip
        by_cases hm : 0 ≤ a2 ∧ a2 ≤ 100
        · skip
          by_cases hd : 20 < X 0 0 5
          · skip
            exact pair_op hT hI (bi_R _) (w_mark_ok hT (fun a n x q => by rw [q.1]) (al_of_mu (c_X11_mark_ok hT hI.1 (by first | assumption | omega | (constructor <;> omega)) (by first | assumption | omega | (constructor <;> omega)) (by first | assumption | omega | (constructor <;> omega)) (by first | assumption | omega | (constructor <;> omega)) (by first | assumption | omega | (constructor <;> omega)) (by first | assumption | omega | (constructor <;> omega))))) (kq_xs (by decide) (by decide) (by decide) (fun z => by cases z) (fun z => by cases z)) (fun X1 h1 hT1 hM1 => mu_wk (c_X12_mark_ok hT1 hI.1.1 hM1 (by first | assumption | omega | (constructor <;> omega)) (by first | assumption | omega | (constructor <;> omega)) (by first | assumption | omega | (constructor <;> omega)) (by first | assumption | omega | (constructor <;> omega)) (by first | assumption | omega | (constructor <;> omega)) (by first | assumption | omega | (constructor <;> omega))) (fun x q => q))
          · skip
            exact pair_no hT hI ⟨by decide, by decide⟩ (z2 := _) (by first | exact R31_0 | exact bi_R _) (w_mark_x4 hT (c_X11_mark_x4 hT hI.1 (by first | assumption | omega | (constructor <;> omega)) (by first | assumption | omega | (constructor <;> omega)) (by first | assumption | omega | (constructor <;> omega)) (by first | assumption | omega | (constructor <;> omega)) (by first | assumption | omega | (constructor <;> omega)) (by first | assumption | omega | (constructor <;> omega)))) (fun x e kk _ => by rw [e]) (fun X1 h1 hT1 hM1 => mu_wk (c_X12_mark_x4 hT1 hI.1.1 hM1 (by first | assumption | omega | (constructor <;> omega)) (by first | assumption | omega | (constructor <;> omega)) (by first | assumption | omega | (constructor <;> omega)) (by first | assumption | omega | (constructor <;> omega)) (by first | assumption | omega | (constructor <;> omega)) (by first | assumption | omega | (constructor <;> omega))) (e_x hM1))
        · skip
          exact pair_no hT hI ⟨by decide, by decide⟩ (z2 := _) (by first | exact R31_0 | exact bi_R _) (w_mark_x3 hT (c_X11_mark_x3 hT hI.1 (by first | assumption | omega | (constructor <;> omega)) (by first | assumption | omega | (constructor <;> omega)) (by first | assumption | omega | (constructor <;> omega)) (by first | assumption | omega | (constructor <;> omega)) (by first | assumption | omega | (constructor <;> omega)))) (fun x e kk _ => by rw [e]) (fun X1 h1 hT1 hM1 => mu_wk (c_X12_mark_x3 hT1 hI.1.1 hM1 (by first | assumption | omega | (constructor <;> omega)) (by first | assumption | omega | (constructor <;> omega)) (by first | assumption | omega | (constructor <;> omega)) (by first | assumption | omega | (constructor <;> omega)) (by first | assumption | omega | (constructor <;> omega))) (e_x hM1))
      · skip
        have ht : tak X s c = false := by simpa using ht
        exact pair_no hT hI ⟨by decide, by decide⟩ (z2 := _) (by first | exact R31_0 | exact bi_R _) (w_mark_x2 hT (c_X11_mark_x2 hT hI.1 (by first | assumption | omega | (constructor <;> omega)) (by first | assumption | omega | (constructor <;> omega)) (by first | assumption | omega | (constructor <;> omega)) (by first | assumption | omega | (constructor <;> omega)))) (fun x e kk _ => by rw [e]) (fun X1 h1 hT1 hM1 => mu_wk (c_X12_mark_x2 hT1 hI.1.1 hM1 (by first | assumption | omega | (constructor <;> omega)) (by first | assumption | omega | (constructor <;> omega)) (by first | assumption | omega | (constructor <;> omega)) (by first | assumption | omega | (constructor <;> omega))) (e_x hM1))
    · skip
      exact pair_no hT hI ⟨by decide, by decide⟩ (z2 := _) (by first | exact R31_0 | exact bi_R _) (w_mark_x1 hT (c_X11_mark_b2 hT hI.1 (by first | assumption | omega | (constructor <;> omega)) (by first | assumption | omega | (constructor <;> omega)) (by first | assumption | omega | (constructor <;> omega)) (by first | assumption | omega | (constructor <;> omega)))) (fun x e kk _ => by rw [e]) (fun X1 h1 hT1 hM1 => mu_wk (c_X12_mark_b2 hT1 hI.1.1 hM1 (by first | assumption | omega | (constructor <;> omega)) (by first | assumption | omega | (constructor <;> omega)) (by first | assumption | omega | (constructor <;> omega)) (by first | assumption | omega | (constructor <;> omega))) (e_x hM1))
  · skip
    exact pair_no hT hI ⟨by decide, by decide⟩ (z2 := _) (by first | exact R31_0 | exact bi_R _) (w_mark_x1 hT (c_X11_mark_b1 hT hI.1 (by first | assumption | omega | (constructor <;> omega)) (by first | assumption | omega | (constructor <;> omega)) (by first | assumption | omega | (constructor <;> omega)) (by first | assumption | omega | (constructor <;> omega)))) (fun x e kk _ => by rw [e]) (fun X1 h1 hT1 hM1 => mu_wk (c_X12_mark_b1 hT1 hI.1.1 hM1 (by first | assumption | omega | (constructor <;> omega)) (by first | assumption | omega | (constructor <;> omega)) (by first | assumption | omega | (constructor <;> omega)) (by first | assumption | omega | (constructor <;> omega))) (e_x hM1))
set_option maxHeartbeats 2000000 in
theorem pr_allow {g : Gt} {α : AL} {ν : Nat → Nat → Bool} {X : XM} {h : AH} {k : Int} (hT : TR g α ν X h) (hI : INV k ν X) {a0 : Int} (ha0 : R31 a0) {a1 : Int} (ha1 : R31 a1) : PAIR g α ν X h k BZ M_L_allow M_X12_allow [.int (J a0), .int (J a1)] := by
  have qc := wo_nC hI.1.1
  have qs := wo_nS hI.1.1
  have qf := wo_nF hI.1.1
  have qr := wo_nR hI.1.1
  have qd := wo_day hI.1.1
  by_cases hn0 : 0 ≤ a0 ∧ a0 < nR X
  · skip
    obtain ⟨r, rfl⟩ : ∃ z : Nat, a0 = (z : Int) := ⟨a0.toNat, by omega⟩
    have hr0 : (r : Int) < nR X := by omega
    by_cases hn1 : 0 ≤ a1 ∧ a1 < nC X
    · skip
      obtain ⟨c, rfl⟩ : ∃ z : Nat, a1 = (z : Int) := ⟨a1.toNat, by omega⟩
      have hc0 : (c : Int) < nC X := by omega
      exact pair_op hT hI (bi_R _) (w_allow_ok hT (fun a n x q => by rw [q.1]) (al_of_mu (c_X11_allow_ok hT hI.1 (by first | assumption | omega | (constructor <;> omega)) (by first | assumption | omega | (constructor <;> omega))))) (kq_xs (by decide) (by decide) (by decide) (fun z => by cases z) (fun z => by cases z)) (fun X1 h1 hT1 hM1 => mu_wk (c_X12_allow_ok hT1 hI.1.1 hM1 (by first | assumption | omega | (constructor <;> omega)) (by first | assumption | omega | (constructor <;> omega))) (fun x q => q))
    · skip
      exact pair_no hT hI ⟨by decide, by decide⟩ (z2 := _) (by first | exact R31_0 | exact bi_R _) (w_allow_x2 hT (c_X11_allow_b2 hT hI.1 (by first | assumption | omega | (constructor <;> omega)) (by first | assumption | omega | (constructor <;> omega)) (by first | assumption | omega | (constructor <;> omega)))) (fun x e kk _ => by rw [e]) (fun X1 h1 hT1 hM1 => mu_wk (c_X12_allow_b2 hT1 hI.1.1 hM1 (by first | assumption | omega | (constructor <;> omega)) (by first | assumption | omega | (constructor <;> omega)) (by first | assumption | omega | (constructor <;> omega))) (e_x hM1))
  · skip
    exact pair_no hT hI ⟨by decide, by decide⟩ (z2 := _) (by first | exact R31_0 | exact bi_R _) (w_allow_x1 hT (c_X11_allow_b1 hT hI.1 (by first | assumption | omega | (constructor <;> omega)) (by first | assumption | omega | (constructor <;> omega)) (by first | assumption | omega | (constructor <;> omega)))) (fun x e kk _ => by rw [e]) (fun X1 h1 hT1 hM1 => mu_wk (c_X12_allow_b1 hT1 hI.1.1 hM1 (by first | assumption | omega | (constructor <;> omega)) (by first | assumption | omega | (constructor <;> omega)) (by first | assumption | omega | (constructor <;> omega))) (e_x hM1))
set_option maxHeartbeats 2000000 in
theorem pr_setDegree {g : Gt} {α : AL} {ν : Nat → Nat → Bool} {X : XM} {h : AH} {k : Int} (hT : TR g α ν X h) (hI : INV k ν X) {a0 : Int} (ha0 : R31 a0) {a1 : Int} (ha1 : R31 a1) : PAIR g α ν X h k TZ M_L_setDegree M_X12_setDegree [.int (J a0), .int (J a1)] := by
  have qc := wo_nC hI.1.1
  have qs := wo_nS hI.1.1
  have qf := wo_nF hI.1.1
  have qr := wo_nR hI.1.1
  have qd := wo_day hI.1.1
  by_cases hm : ¬ (0 ≤ a0 ∧ a0 ≤ 3) ∨ ¬ (0 ≤ a1 ∧ a1 ≤ 120)
  · skip
    exact pair_no hT hI ⟨by decide, by decide⟩ (z2 := _) (by first | exact R31_0 | exact bi_R _) (w_setDegree_x1 hT (c_X11_setDegree_x1 hT hI.1 (by first | assumption | omega | (constructor <;> omega)) (by first | assumption | omega | (constructor <;> omega)) (by first | assumption | omega | (constructor <;> omega)))) (fun x e kk _ => by rw [e]) (fun X1 h1 hT1 hM1 => mu_wk (c_X12_setDegree_x1 hT1 hI.1.1 hM1 (by first | assumption | omega | (constructor <;> omega)) (by first | assumption | omega | (constructor <;> omega)) (by first | assumption | omega | (constructor <;> omega))) (e_x hM1))
  · skip
    obtain ⟨m, rfl⟩ : ∃ z : Nat, a0 = (z : Int) := ⟨a0.toNat, by omega⟩
    exact pair_op hT hI (hT.rng 3 0 m) (w_setDegree_ok hT (hT.rng 3 0 m) (fun a n x q => by rw [q.1]) (al_of_mu (c_X11_setDegree_ok hT hI.1 (by first | assumption | omega | (constructor <;> omega)) (by first | assumption | omega | (constructor <;> omega)) (by first | assumption | omega | (constructor <;> omega))))) (kq_xs (by decide) (by decide) (by decide) (fun z => by cases z) (fun z => by cases z)) (fun X1 h1 hT1 hM1 => mu_wk (c_X12_setDegree_ok hT1 hI.1.1 hM1 (by first | assumption | omega | (constructor <;> omega)) (by first | assumption | omega | (constructor <;> omega)) (by first | assumption | omega | (constructor <;> omega))) (fun x q => q))
set_option maxHeartbeats 2000000 in
theorem pr_moveIn {g : Gt} {α : AL} {ν : Nat → Nat → Bool} {X : XM} {h : AH} {k : Int} (hT : TR g α ν X h) (hI : INV k ν X) {a0 : Int} (ha0 : R31 a0) {a1 : Int} (ha1 : R31 a1) : PAIR g α ν X h k TZ M_L_moveIn M_X12_moveIn [.int (J a0), .int (J a1)] := by
  have qc := wo_nC hI.1.1
  have qs := wo_nS hI.1.1
  have qf := wo_nF hI.1.1
  have qr := wo_nR hI.1.1
  have qd := wo_day hI.1.1
  by_cases hn0 : 0 ≤ a0 ∧ a0 < nS X
  · skip
    obtain ⟨s, rfl⟩ : ∃ z : Nat, a0 = (z : Int) := ⟨a0.toNat, by omega⟩
    have hs0 : (s : Int) < nS X := by omega
    by_cases hn1 : 0 ≤ a1 ∧ a1 < nC X
    · skip
      obtain ⟨c, rfl⟩ : ∃ z : Nat, a1 = (z : Int) := ⟨a1.toNat, by omega⟩
      have hc0 : (c : Int) < nC X := by omega
      by_cases hb : 50 ≤ X 8 s c
      · skip
        exact pair_no hT hI ⟨by decide, by decide⟩ (z2 := _) (by first | exact R31_0 | exact bi_R _) (w_moveIn_x2 hT (c_X11_moveIn_x2 hT hI.1 (by first | assumption | omega | (constructor <;> omega)) (by first | assumption | omega | (constructor <;> omega)) (by first | assumption | omega | (constructor <;> omega)))) (fun x e kk _ => by rw [e]) (fun X1 h1 hT1 hM1 => mu_wk (c_X12_moveIn_x2 hT1 hI.1.1 hM1 (by first | assumption | omega | (constructor <;> omega)) (by first | assumption | omega | (constructor <;> omega)) (by first | assumption | omega | (constructor <;> omega))) (e_x hM1))
      · skip
        by_cases hm : 12 < movd X s + X 12 c 1
        · skip
          have hb : X 8 s c < 50 := by omega
          exact pair_no hT hI ⟨by decide, by decide⟩ (z2 := _) (by first | exact R31_0 | exact bi_R _) (w_moveIn_x3 hT (c_X11_moveIn_x3 hT hI.1 (by first | assumption | omega | (constructor <;> omega)) (by first | assumption | omega | (constructor <;> omega)) (by first | assumption | omega | (constructor <;> omega)) (by first | assumption | omega | (constructor <;> omega)))) (fun x e kk _ => by rw [e]) (fun X1 h1 hT1 hM1 => mu_wk (c_X12_moveIn_x3 hT1 hI.1.1 hM1 (by first | assumption | omega | (constructor <;> omega)) (by first | assumption | omega | (constructor <;> omega)) (by first | assumption | omega | (constructor <;> omega)) (by first | assumption | omega | (constructor <;> omega))) (e_x hM1))
        · skip
          have hb : X 8 s c < 50 := by omega
          have ql : 0 ≤ movd X s ∧ movd X s ≤ 6 * ((nC X).toNat : Int) := crS_0 hI.1.1 (mvd X s) (nC X).toNat (by omega)
          have ql2 := wo_crd hI.1.1 c hc0
          exact pair_op hT hI (⟨by omega, by omega⟩) (w_moveIn_ok hT (⟨by omega, by omega⟩) (fun a n x q => by rw [q.1]) (al_of_mu (c_X11_moveIn_ok hT hI.1 (by first | assumption | omega | (constructor <;> omega)) (by first | assumption | omega | (constructor <;> omega)) (by first | assumption | omega | (constructor <;> omega)) (by first | assumption | omega | (constructor <;> omega))))) (kq_mv.trans (kq_gv (wx_mv hI.1 hs0 hc0 hb).1)) (fun X1 h1 hT1 hM1 => mu_wk (c_X12_moveIn_ok hT1 hI.1.1 hM1 (by first | assumption | omega | (constructor <;> omega)) (by first | assumption | omega | (constructor <;> omega)) (by first | assumption | omega | (constructor <;> omega)) (by first | assumption | omega | (constructor <;> omega))) (fun x q => q))
    · skip
      exact pair_no hT hI ⟨by decide, by decide⟩ (z2 := _) (by first | exact R31_0 | exact bi_R _) (w_moveIn_x1 hT (c_X11_moveIn_b2 hT hI.1 (by first | assumption | omega | (constructor <;> omega)) (by first | assumption | omega | (constructor <;> omega)) (by first | assumption | omega | (constructor <;> omega)))) (fun x e kk _ => by rw [e]) (fun X1 h1 hT1 hM1 => mu_wk (c_X12_moveIn_b2 hT1 hI.1.1 hM1 (by first | assumption | omega | (constructor <;> omega)) (by first | assumption | omega | (constructor <;> omega)) (by first | assumption | omega | (constructor <;> omega))) (e_x hM1))
  · skip
    exact pair_no hT hI ⟨by decide, by decide⟩ (z2 := _) (by first | exact R31_0 | exact bi_R _) (w_moveIn_x1 hT (c_X11_moveIn_b1 hT hI.1 (by first | assumption | omega | (constructor <;> omega)) (by first | assumption | omega | (constructor <;> omega)) (by first | assumption | omega | (constructor <;> omega)))) (fun x e kk _ => by rw [e]) (fun X1 h1 hT1 hM1 => mu_wk (c_X12_moveIn_b1 hT1 hI.1.1 hM1 (by first | assumption | omega | (constructor <;> omega)) (by first | assumption | omega | (constructor <;> omega)) (by first | assumption | omega | (constructor <;> omega))) (e_x hM1))
set_option maxHeartbeats 2000000 in
theorem pr_drop {g : Gt} {α : AL} {ν : Nat → Nat → Bool} {X : XM} {h : AH} {k : Int} (hT : TR g α ν X h) (hI : INV k ν X) {a0 : Int} (ha0 : R31 a0) {a1 : Int} (ha1 : R31 a1) : PAIR g α ν X h k TZ M_L_drop M_X12_drop [.int (J a0), .int (J a1)] := by
  have qc := wo_nC hI.1.1
  have qs := wo_nS hI.1.1
  have qf := wo_nF hI.1.1
  have qr := wo_nR hI.1.1
  have qd := wo_day hI.1.1
  by_cases hn0 : 0 ≤ a0 ∧ a0 < nS X
  · skip
    obtain ⟨s, rfl⟩ : ∃ z : Nat, a0 = (z : Int) := ⟨a0.toNat, by omega⟩
    have hs0 : (s : Int) < nS X := by omega
    by_cases hn1 : 0 ≤ a1 ∧ a1 < nC X
    · skip
      obtain ⟨c, rfl⟩ : ∃ z : Nat, a1 = (z : Int) := ⟨a1.toNat, by omega⟩
      have hc0 : (c : Int) < nC X := by omega
      by_cases htk : tak X s c = true
      · skip
        by_cases hd : 20 < X 0 0 5
        · skip
          exact pair_no hT hI ⟨by decide, by decide⟩ (z2 := _) (by first | exact R31_0 | exact bi_R _) (w_drop_x3 hT (c_X11_drop_x3t hT hI.1 (by first | assumption | omega | (constructor <;> omega)) (by first | assumption | omega | (constructor <;> omega)) (by first | assumption | omega | (constructor <;> omega)) (by first | assumption | omega | (constructor <;> omega)))) (fun x e kk _ => by rw [e]) (fun X1 h1 hT1 hM1 => mu_wk (c_X12_drop_x3 hT1 hI.1.1 hM1 (by first | assumption | omega | (constructor <;> omega)) (by first | assumption | omega | (constructor <;> omega)) (Or.inl htk) (by first | assumption | omega | (constructor <;> omega))) (e_x hM1))
        · skip
          exact pair_op hT hI (by split <;> exact ⟨by decide, by decide⟩) (w_drop_ok hT (by split <;> exact ⟨by decide, by decide⟩) (fun a n x q => by rw [q.1]) (al_of_mu (c_X11_drop_okt hT hI.1 (by first | assumption | omega | (constructor <;> omega)) (by first | assumption | omega | (constructor <;> omega)) (by first | assumption | omega | (constructor <;> omega)) (by first | assumption | omega | (constructor <;> omega))))) ((kq_eO hI.1.1 hs0 (Or.inr ⟨c, rfl, hc0, htk⟩)).trans (kq_gv (wo_eN 20 hI.1.1 hs0 (Or.inr ⟨c, rfl, hc0, htk⟩)))) (fun X1 h1 hT1 hM1 => mu_wk (c_X12_drop_okt hT1 hI.1.1 hM1 (by first | assumption | omega | (constructor <;> omega)) (by first | assumption | omega | (constructor <;> omega)) (by first | assumption | omega | (constructor <;> omega)) (by first | assumption | omega | (constructor <;> omega))) (fun x q => q))
      · skip
        by_cases hpl : place X c s = -1
        · skip
          have htk : tak X s c = false := by simpa using htk
          exact pair_no hT hI ⟨by decide, by decide⟩ (z2 := _) (by first | exact R31_0 | exact bi_R _) (w_drop_x2 hT (c_X11_drop_x2 hT hI.1 (by first | assumption | omega | (constructor <;> omega)) (by first | assumption | omega | (constructor <;> omega)) (by first | assumption | omega | (constructor <;> omega)) (by first | assumption | omega | (constructor <;> omega)))) (fun x e kk _ => by rw [e]) (fun X1 h1 hT1 hM1 => mu_wk (c_X12_drop_x2 hT1 hI.1.1 hM1 (by first | assumption | omega | (constructor <;> omega)) (by first | assumption | omega | (constructor <;> omega)) (by first | assumption | omega | (constructor <;> omega)) (by first | assumption | omega | (constructor <;> omega))) (e_x hM1))
        · skip
          by_cases hd : 20 < X 0 0 5
          · skip
            have hpl : place X c s ≠ -1 := hpl
            have htk : tak X s c = false := by simpa using htk
            exact pair_no hT hI ⟨by decide, by decide⟩ (z2 := _) (by first | exact R31_0 | exact bi_R _) (w_drop_x3 hT (c_X11_drop_x3w hT hI.1 (by first | assumption | omega | (constructor <;> omega)) (by first | assumption | omega | (constructor <;> omega)) (by first | assumption | omega | (constructor <;> omega)) (by first | assumption | omega | (constructor <;> omega)) (by first | assumption | omega | (constructor <;> omega)))) (fun x e kk _ => by rw [e]) (fun X1 h1 hT1 hM1 => mu_wk (c_X12_drop_x3 hT1 hI.1.1 hM1 (by first | assumption | omega | (constructor <;> omega)) (by first | assumption | omega | (constructor <;> omega)) (Or.inr hpl) (by first | assumption | omega | (constructor <;> omega))) (e_x hM1))
          · skip
            have hpl : place X c s ≠ -1 := hpl
            have htk : tak X s c = false := by simpa using htk
            have qp := place_R hI.1.1 hc0 s
            have qp2 := plc_R X c s (X 1 (4 + c) 2).toNat
            have qp3 : place X c s = plc X c s (X 1 (4 + c) 2).toNat := rfl
            exact pair_op hT hI (⟨by decide, by decide⟩) (w_drop_ok hT (⟨by decide, by decide⟩) (fun a n x q => by rw [q.1]) (al_of_mu (c_X11_drop_okw hT hI.1 (by first | assumption | omega | (constructor <;> omega)) (by first | assumption | omega | (constructor <;> omega)) (by first | assumption | omega | (constructor <;> omega)) (by first | assumption | omega | (constructor <;> omega)) (by first | assumption | omega | (constructor <;> omega))))) ((kq_lv (by omega)).trans (kq_gv (wo_lv hI.1.1 hc0 (by omega)))) (fun X1 h1 hT1 hM1 => mu_wk (c_X12_drop_okw hT1 hI.1.1 hM1 (by first | assumption | omega | (constructor <;> omega)) (by first | assumption | omega | (constructor <;> omega)) (by first | assumption | omega | (constructor <;> omega)) (by first | assumption | omega | (constructor <;> omega)) (by first | assumption | omega | (constructor <;> omega))) (fun x q => q))
    · skip
      exact pair_no hT hI ⟨by decide, by decide⟩ (z2 := _) (by first | exact R31_0 | exact bi_R _) (w_drop_x1 hT (c_X11_drop_b2 hT hI.1 (by first | assumption | omega | (constructor <;> omega)) (by first | assumption | omega | (constructor <;> omega)) (by first | assumption | omega | (constructor <;> omega)))) (fun x e kk _ => by rw [e]) (fun X1 h1 hT1 hM1 => mu_wk (c_X12_drop_b2 hT1 hI.1.1 hM1 (by first | assumption | omega | (constructor <;> omega)) (by first | assumption | omega | (constructor <;> omega)) (by first | assumption | omega | (constructor <;> omega))) (e_x hM1))
  · skip
    exact pair_no hT hI ⟨by decide, by decide⟩ (z2 := _) (by first | exact R31_0 | exact bi_R _) (w_drop_x1 hT (c_X11_drop_b1 hT hI.1 (by first | assumption | omega | (constructor <;> omega)) (by first | assumption | omega | (constructor <;> omega)) (by first | assumption | omega | (constructor <;> omega)))) (fun x e kk _ => by rw [e]) (fun X1 h1 hT1 hM1 => mu_wk (c_X12_drop_b1 hT1 hI.1.1 hM1 (by first | assumption | omega | (constructor <;> omega)) (by first | assumption | omega | (constructor <;> omega)) (by first | assumption | omega | (constructor <;> omega))) (e_x hM1))
