/-! THE REFERENCE: what can be reached -/
/-- the rules of a student's major: how many, which, what they need; whether a course counts -/
def prM (O : XM) (s : Nat) : Nat → Bool := fun r => decide (O 14 r 0 = O 4 s 0)
def nsl (O : XM) (s : Nat) : Nat := (cnt (prM O s) (nR O).toNat).toNat
def itR (O : XM) (s k : Nat) : Nat := itN (prM O s) k (nR O).toNat
def ndR (O : XM) (s : Nat) : Nat → Int := fun k => O 14 (itR O s k) 1
def bbR (O : XM) (s : Nat) (b : Bool) (c : Nat) : Int := if (b && tak O s c) = true then 100 else O 8 s c
def ftR (O : XM) (s : Nat) (b : Bool) (c k : Nat) : Bool := decide ((c : Int) < nC O) && (decide (O 15 (itR O s k) c ≠ 0) && (decide (50 ≤ bbR O s b c) && decide (O 14 (itR O s k) 2 ≤ bbR O s b c)))
theorem nsl_4 {O : XM} (hO : WO O) (s : Nat) : nsl O s ≤ 4 := by
  have a := wo_rm4 hO (O 4 s 0)
  have b := cnt_0 (prM O s) (nR O).toNat
  unfold nsl
  have c : cnt (prM O s) (nR O).toNat ≤ 4 := a
  omega
theorem itR_p {O : XM} (hO : WO O) {s k : Nat} (hk : k < nsl O s) : (itR O s k : Int) < nR O ∧ O 14 (itR O s k) 0 = O 4 s 0 := by
  have q := wo_nR hO
  have b := cnt_0 (prM O s) (nR O).toNat
  unfold nsl at hk
  obtain ⟨a1, a2, -⟩ := itN_p (p := prM O s) (k := k) (nR O).toNat (by omega)
  unfold itR
  exact ⟨by omega, of_decide_eq_true a2⟩
theorem itR_lt {O : XM} {s k k2 : Nat} (h : k < k2) (h2 : k2 < nsl O s) : itR O s k < itR O s k2 := by
  have b := cnt_0 (prM O s) (nR O).toNat
  unfold nsl at h2
  exact itN_lt h (by omega)
theorem ndR_R {O : XM} (hO : WO O) {s k : Nat} (hk : k < nsl O s) : 1 ≤ ndR O s k ∧ ndR O s k ≤ 3 := by
  have q := itR_p hO hk
  have w := wo_rul hO (itR O s k) q.1
  unfold ndR
  omega
section STG
variable {m : Nat} {fit : Nat → Nat → Bool} {rm : Nat → Int}
/-- a course in course: fillings from lo on are done; of f2 the first k slots -/
def Rm (m : Nat) (fit : Nat → Nat → Bool) (rm : Nat → Int) (R : Nat → Prop) (c lo : Nat) (g : Nat) : Prop := R g ∨ ∃ f k, lo ≤ f ∧ k < m ∧ g = up1 f k ∧ R f ∧ fit c k = true ∧ (dg f k : Int) < rm k
def Rn (m : Nat) (fit : Nat → Nat → Bool) (rm : Nat → Int) (R : Nat → Prop) (c f2 k0 : Nat) (g : Nat) : Prop := Rm m fit rm R c (f2 + 1) g ∨ ∃ k, k < k0 ∧ k < m ∧ g = up1 f2 k ∧ R f2 ∧ fit c k = true ∧ (dg f2 k : Int) < rm k
theorem Rm_bot {fr fill i : Nat} (g : Nat) : Rm m fit rm (Rc m fit rm fr fill i) (fr + i) 0 g ↔ Rc m fit rm fr fill (i + 1) g := by
  constructor
  · rintro (h | ⟨f, k, h1, h2, h3, h4, h5⟩)
    · exact Or.inl h
    · exact Or.inr ⟨f, k, h2, h3, h4, h5⟩
  · rintro (h | ⟨f, k, h2, h3, h4, h5⟩)
    · exact Or.inl h
    · exact Or.inr ⟨f, k, Nat.zero_le f, h2, h3, h4, h5⟩
theorem Rn_0 {R : Nat → Prop} {c f2 : Nat} (g : Nat) : Rm m fit rm R c (f2 + 1) g ↔ Rn m fit rm R c f2 0 g := by
  constructor
  · exact Or.inl
  · rintro (h | ⟨k, h1, h2⟩)
    · exact h
    · exact absurd h1 (Nat.not_lt_zero k)
theorem Rn_m {R : Nat → Prop} {c f2 k0 : Nat} (hk : m ≤ k0) (g : Nat) : Rn m fit rm R c f2 k0 g ↔ Rm m fit rm R c f2 g := by
  constructor
  · rintro ((h | ⟨f, k, h1, h2⟩) | ⟨k, h1, h2, h3⟩)
    · exact Or.inl h
    · exact Or.inr ⟨f, k, by omega, h2⟩
    · exact Or.inr ⟨f2, k, Nat.le_refl f2, h2, h3⟩
  · rintro (h | ⟨f, k, h1, h2, h3⟩)
    · exact Or.inl (Or.inl h)
    · by_cases e : f = f2
      · subst e; exact Or.inr ⟨k, by omega, h2, h3⟩
      · exact Or.inl (Or.inr ⟨f, k, by omega, h2, h3⟩)
theorem Rn_no {R : Nat → Prop} {c f2 k0 : Nat} (hR : ¬ R f2) (g : Nat) : Rn m fit rm R c f2 k0 g ↔ Rm m fit rm R c f2 g := by
  constructor
  · rintro ((h | ⟨f, k, h1, h2⟩) | ⟨k, h1, h2, h3, h4, h5⟩)
    · exact Or.inl h
    · exact Or.inr ⟨f, k, by omega, h2⟩
    · exact absurd h4 hR
  · rintro (h | ⟨f, k, h1, h2, h3, h4, h5⟩)
    · exact Or.inl (Or.inl h)
    · have : f ≠ f2 := fun e => hR (e ▸ h4)
      exact Or.inl (Or.inr ⟨f, k, by omega, h2, h3, h4, h5⟩)
/-- a filling itself isn't touched while it is at work -/
theorem Rn_self {R : Nat → Prop} {c f2 k0 : Nat} : Rn m fit rm R c f2 k0 f2 ↔ R f2 := by
  constructor
  · rintro ((h | ⟨f, k, h1, h2, h3, h4⟩) | ⟨k, h1, h2, h3, h4⟩)
    · exact h
    · have := up1_gt f k; omega
    · exact h4.1
  · exact fun h => Or.inl (Or.inl h)
theorem Rn_y {R : Nat → Prop} {c f2 k : Nat} (hk : k < m) (hR : R f2) (hf : fit c k = true) (hd : (dg f2 k : Int) < rm k) (g : Nat) : Rn m fit rm R c f2 (k + 1) g ↔ Rn m fit rm R c f2 k g ∨ g = up1 f2 k := by
  constructor
  · rintro (h | ⟨j, h1, h2, h3, h4⟩)
    · exact Or.inl (Or.inl h)
    · by_cases e : j = k
      · subst e; exact Or.inr h3
      · exact Or.inl (Or.inr ⟨j, by omega, h2, h3, h4⟩)
  · rintro ((h | ⟨j, h1, h2, h3, h4⟩) | h)
    · exact Or.inl h
    · exact Or.inr ⟨j, by omega, h2, h3, h4⟩
    · exact Or.inr ⟨k, Nat.lt_succ_self k, hk, h, hR, hf, hd⟩
theorem Rn_n {R : Nat → Prop} {c f2 k : Nat} (h : ¬ (fit c k = true ∧ (dg f2 k : Int) < rm k)) (g : Nat) : Rn m fit rm R c f2 k g ↔ Rn m fit rm R c f2 (k + 1) g := by
  constructor
  · rintro (q | ⟨j, h1, h2⟩)
    · exact Or.inl q
    · exact Or.inr ⟨j, by omega, h2⟩
  · rintro (q | ⟨j, h1, h2, h3, h4, h5⟩)
    · exact Or.inl q
    · by_cases e : j = k
      · subst e; exact absurd h5 h
      · exact Or.inr ⟨j, by omega, h2, h3, h4, h5⟩
/-- the greatest of the first n -/
def GMx (R : Nat → Prop) (n : Nat) (z : Int) : Prop := 0 ≤ z ∧ z ≤ 12 ∧ (∀ g, g < n → R g → (nf g : Int) ≤ z) ∧ (z = 0 ∨ ∃ g, R g ∧ (nf g : Int) = z)
theorem nf_12 (g : Nat) : nf g ≤ 12 := by
  have a := dg_le g 0
  have b := dg_le g 1
  have c := dg_le g 2
  have d := dg_le g 3
  unfold nf
  omega
theorem GMx_0 (R : Nat → Prop) : GMx R 0 0 := ⟨Int.le_refl 0, by decide, fun g h => absurd h (Nat.not_lt_zero g), Or.inl rfl⟩
theorem GMx_n {R : Nat → Prop} {n : Nat} {z : Int} (h : GMx R n z) (hn : R n → (nf n : Int) ≤ z) : GMx R (n + 1) z := ⟨h.1, h.2.1, fun g hg hR => by
  by_cases e : g = n
  · subst e; exact hn hR
  · exact h.2.2.1 g (by omega) hR, h.2.2.2⟩
theorem GMx_y {R : Nat → Prop} {n : Nat} {z : Int} (h : GMx R n z) (hR : R n) (hn : z < nf n) : GMx R (n + 1) (nf n) := ⟨by have := h.1; omega, by have := nf_12 n; omega, fun g hg hR => by
  by_cases e : g = n
  · subst e; exact Int.le_refl _
  · have := h.2.2.1 g (by omega) hR; omega, Or.inr ⟨n, hR, rfl⟩⟩
theorem GMx_end {R : Nat → Prop} {n g0 : Nat} {z : Int} (h : GMx R n z) (hl : ∀ g, R g → g < n) (h0 : R g0) : mx R = z := by
  refine mx_eq ⟨fun g hg => h.2.2.1 g (hl g hg) hg, ?_⟩
  rcases h.2.2.2 with q | q
  · refine ⟨g0, h0, ?_⟩
    have := h.2.2.1 g0 (hl g0 h0) h0
    omega
  · exact q
theorem Rc_self {fr fill : Nat} : ∀ i, Rc m fit rm fr fill i fill
  | 0 => rfl
  | i + 1 => Or.inl (Rc_self i)
end STG
