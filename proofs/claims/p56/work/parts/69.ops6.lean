/-! courses that end with others -/
/-- a course whose requisite does not hold -/
def unm (X : XM) (s c : Nat) : Bool := tak X s c && !mayT X s c
/-- z is the lowest such course from k on, or -1 -/
def FU (X : XM) (s k : Nat) (z : Int) : Prop := (z = -1 ∧ ∀ c : Nat, k ≤ c → (c : Int) < nC X → unm X s c = false) ∨ ∃ r : Nat, z = (r : Int) ∧ k ≤ r ∧ (r : Int) < nC X ∧ unm X s r = true ∧ ∀ c : Nat, k ≤ c → c < r → unm X s c = false
theorem FU_nil {X : XM} {s k : Nat} (h : nC X ≤ (k : Int)) : FU X s k (-1) := Or.inl ⟨rfl, fun c h1 h2 => absurd h2 (by omega)⟩
theorem FU_y {X : XM} {s k : Nat} (h : (k : Int) < nC X) (hu : unm X s k = true) : FU X s k (k : Int) := Or.inr ⟨k, rfl, Nat.le_refl k, h, hu, fun c h1 h2 => absurd h1 (by omega)⟩
theorem FU_n {X : XM} {s k : Nat} {z : Int} (hu : unm X s k = false) (h : FU X s (k + 1) z) : FU X s k z := by
  rcases h with ⟨e, h⟩ | ⟨r, e, h1, h2, h3, h4⟩
  · refine Or.inl ⟨e, fun c a b => ?_⟩
    by_cases q : c = k
    · rw [q]; exact hu
    · exact h c (by omega) b
  · refine Or.inr ⟨r, e, by omega, h2, h3, fun c a b => ?_⟩
    by_cases q : c = k
    · rw [q]; exact hu
    · exact h4 c (by omega) b
theorem FU_at {X : XM} {s k : Nat} (hk : (k : Int) < nC X) (hu : unm X s k = true) (h : ∀ c : Nat, c < k → unm X s c = false) : FU X s 0 (k : Int) := Or.inr ⟨k, rfl, Nat.zero_le k, hk, hu, fun c _ b => h c b⟩
theorem FU_no {X : XM} {s k : Nat} (hk : nC X ≤ (k : Int)) (h : ∀ c : Nat, c < k → unm X s c = false) : FU X s 0 (-1) := Or.inl ⟨rfl, fun c _ b => h c (by omega)⟩
theorem FU_eq {X : XM} {s k : Nat} {z y : Int} (h1 : FU X s k z) (h2 : FU X s k y) : z = y := by
  rcases h1 with ⟨e, h⟩ | ⟨r, e, a1, a2, a3, a4⟩ <;> rcases h2 with ⟨e', h'⟩ | ⟨r', e', b1, b2, b3, b4⟩
  · rw [e, e']
  · have := h r' b1 b2; rw [b3] at this; cases this
  · have := h' r a1 a2; rw [a3] at this; cases this
  · have q : r = r' := by
      rcases Nat.lt_trichotomy r r' with q | q | q
      · have := b4 r a1 q; rw [a3] at this; cases this
      · exact q
      · have := a4 r' b1 q; rw [b3] at this; cases this
    rw [e, e', q]
def fuN (X : XM) (s : Nat) : Nat → Int
  | 0 => -1
  | n + 1 => if fuN X s n = -1 then (if unm X s n = true then (n : Int) else -1) else fuN X s n
def fu (X : XM) (s : Nat) : Int := fuN X s (nC X).toNat
theorem fuN_p (X : XM) (s : Nat) : ∀ n : Nat, (fuN X s n = -1 ∧ ∀ c : Nat, c < n → unm X s c = false) ∨ ∃ r : Nat, fuN X s n = (r : Int) ∧ r < n ∧ unm X s r = true ∧ ∀ c : Nat, c < r → unm X s c = false
  | 0 => Or.inl ⟨rfl, fun c h => absurd h (Nat.not_lt_zero c)⟩
  | n + 1 => by
    rw [fuN]
    rcases fuN_p X s n with ⟨e, h⟩ | ⟨r, e, h1, h2, h3⟩
    · rw [if_pos e]
      by_cases q : unm X s n = true
      · rw [if_pos q]; exact Or.inr ⟨n, rfl, Nat.lt_succ_self n, q, h⟩
      · rw [if_neg q]
        refine Or.inl ⟨rfl, fun c hc => ?_⟩
        by_cases q2 : c = n
        · rw [q2]; exact Bool.eq_false_iff.mpr q
        · exact h c (by omega)
    · rw [if_neg (by omega)]
      exact Or.inr ⟨r, e, by omega, h2, h3⟩
theorem FU_fu {X : XM} (hO : WO X) (s : Nat) : FU X s 0 (fu X s) := by
  have q := wo_nC hO
  unfold fu
  rcases fuN_p X s (nC X).toNat with ⟨e, h⟩ | ⟨r, e, h1, h2, h3⟩
  · rw [e]; exact FU_no (k := (nC X).toNat) (by omega) h
  · rw [e]; exact FU_at (by omega) h2 h3
/-- the end of one; of it and the others -/
def en1 (X : XM) (s c : Nat) : XM := if 9 ≤ X 0 0 5 ∧ X 0 0 5 ≤ 20 then aa (xs X 5 s c 0) s c (-1) else xs X 5 s c 0
def eN : Nat → XM → Nat → Int → XM
  | 0, X, _, _ => X
  | n + 1, X, s, c => if c = -1 then X else eN n (en1 X s c.toNat) s (fu (en1 X s c.toNat) s)
def eO (X : XM) (s : Nat) (c : Int) : XM := eN 20 X s c
theorem eN_0 (n : Nat) (X : XM) (s : Nat) : eN n X s (-1) = X := by
  cases n with
  | zero => rfl
  | succ n => rw [eN, if_pos rfl]
theorem en1_k {X : XM} {s c k : Nat} (h5 : k ≠ 5) (h8 : k ≠ 8) (h9 : k ≠ 9) (h11 : k ≠ 11) : en1 X s c k = X k := by
  unfold en1
  split
  · rw [aa_k h8 h9 h11, xs_nk h5]
  · exact xs_nk h5
theorem en1_5 (X : XM) (s c s2 c2 : Nat) : en1 X s c 5 s2 c2 = if s2 = s ∧ c2 = c then 0 else X 5 s2 c2 := by
  have e : xs X 5 s c 0 5 s2 c2 = if s2 = s ∧ c2 = c then 0 else X 5 s2 c2 := by
    rw [xs_all]
    by_cases q : s2 = s ∧ c2 = c
    · rw [if_pos q, if_pos ⟨rfl, q⟩]
    · rw [if_neg q, if_neg (fun z => q z.2)]
  unfold en1
  split
  · rw [aa_k (by decide) (by decide) (by decide)]; exact e
  · exact e
theorem eN_k {k : Nat} (h5 : k ≠ 5) (h8 : k ≠ 8) (h9 : k ≠ 9) (h11 : k ≠ 11) (s : Nat) : ∀ (n : Nat) (X : XM) (c : Int), eN n X s c k = X k
  | 0, _, _ => rfl
  | n + 1, X, c => by
    rw [eN]
    split
    · rfl
    · rw [eN_k h5 h8 h9 h11 s n]; exact en1_k h5 h8 h9 h11
theorem wo_en1 {X : XM} (h : WO X) {s c : Nat} (hs : (s : Int) < nS X) (hc : (c : Int) < nC X) (ht : tak X s c = true) : WO (en1 X s c) := by
  have q := wo_nC h
  unfold en1
  split
  · rename_i hd
    have e1 : xs X 5 s c 0 1 = X 1 := xs_nk (by decide)
    have t3 := wo_tk3 h s c hs (by omega) (of_decide_eq_true ht)
    exact wo_aa (wo_un h s c) (by unfold nS; rw [e1]; exact hs) (by unfold nC; rw [e1]; exact hc) (by rw [xs_nk (by decide)]; omega) (by rw [xs_at, if_pos rfl]) (by rw [xs_nk (by decide)]; omega) (by decide)
  · exact wo_un h s c
theorem wx_en1 {ν : Nat → Nat → Bool} {X : XM} (h : WX ν X) {s c : Nat} (hs : (s : Int) < nS X) (hc : (c : Int) < nC X) (ht : tak X s c = true) : WX ν (en1 X s c) :=
  ⟨wo_en1 h.1 hs hc ht, wv_k h.2 (en1_k (by decide) (by decide) (by decide) (by decide)) (en1_k (by decide) (by decide) (by decide) (by decide))⟩
/-- c is none, or a course that s takes -/
def TC (X : XM) (s : Nat) (c : Int) : Prop := c = -1 ∨ ∃ r : Nat, c = (r : Int) ∧ (r : Int) < nC X ∧ tak X s r = true
theorem TC_fu {X : XM} {s : Nat} {z : Int} (h : FU X s 0 z) : TC X s z := by
  rcases h with ⟨e, -⟩ | ⟨r, e, -, h2, h3, -⟩
  · exact Or.inl e
  · refine Or.inr ⟨r, e, h2, ?_⟩
    unfold unm at h3
    exact ((Bool.and_eq_true _ _).mp h3).1
theorem TC_R {X : XM} (hO : WO X) {s : Nat} {z : Int} (h : TC X s z) : -1 ≤ z ∧ z < 20 := by
  have q := wo_nC hO
  rcases h with e | ⟨r, e, h2, -⟩ <;> omega
theorem eO_k {X : XM} {s : Nat} {c : Int} {k : Nat} (h5 : k ≠ 5) (h8 : k ≠ 8) (h9 : k ≠ 9) (h11 : k ≠ 11) : eO X s c k = X k := eN_k h5 h8 h9 h11 s 20 X c
theorem nC_en1 (X : XM) (s c : Nat) : nC (en1 X s c) = nC X := by unfold nC; rw [en1_k (by decide) (by decide) (by decide) (by decide)]
theorem nS_en1 (X : XM) (s c : Nat) : nS (en1 X s c) = nS X := by unfold nS; rw [en1_k (by decide) (by decide) (by decide) (by decide)]
theorem wo_eN {s : Nat} : ∀ (n : Nat) {X : XM} {c : Int}, WO X → (s : Int) < nS X → TC X s c → WO (eN n X s c)
  | 0, _, _, h, _, _ => h
  | n + 1, X, c, h, hs, ht => by
    rw [eN]
    split
    · exact h
    · rename_i hc1
      rcases ht with e | ⟨r, e, h1, h2⟩
      · exact absurd e hc1
      · subst e
        rw [Int.toNat_natCast]
        have w := wo_en1 h hs h1 h2
        exact wo_eN n w (by rw [nS_en1]; exact hs) (TC_fu (FU_fu w s))
theorem wx_eN {ν : Nat → Nat → Bool} {s : Nat} {n : Nat} {X : XM} {c : Int} (h : WX ν X) (hs : (s : Int) < nS X) (ht : TC X s c) : WX ν (eN n X s c) :=
  ⟨wo_eN n h.1 hs ht, wv_k h.2 (eN_k (by decide) (by decide) (by decide) (by decide) s n X c) (eN_k (by decide) (by decide) (by decide) (by decide) s n X c)⟩
/-- how many s takes falls -/
theorem cnt_clr {p q : Nat → Bool} {c : Nat} (hp : p c = true) (hq : ∀ j, q j = (p j && !decide (j = c))) : ∀ n, cnt q n = cnt p n - (if c < n then 1 else 0)
  | 0 => by rw [if_neg (Nat.not_lt_zero c)]; rfl
  | n + 1 => by
    rw [cnt_s, cnt_s, cnt_clr hp hq n, hq n]
    by_cases e : n = c
    · subst e; rw [hp, if_neg (Nat.lt_irrefl n), if_pos (Nat.lt_succ_self n)]; simp
    · rw [decide_eq_false e, Bool.not_false, Bool.and_true]
      by_cases q2 : c < n
      · rw [if_pos q2, if_pos (show c < n + 1 by omega)]; omega
      · rw [if_neg q2, if_neg (show ¬ c < n + 1 by omega)]; omega
theorem tak_en1 (X : XM) (s c j : Nat) : tak (en1 X s c) s j = (tak X s j && !decide (j = c)) := by
  unfold tak
  rw [en1_5]
  by_cases e : j = c
  · rw [if_pos ⟨rfl, e⟩, decide_eq_true e]; simp
  · rw [if_neg (fun z => e z.2), decide_eq_false e]; simp
theorem cnt_en1 {X : XM} {s c : Nat} (h : tak X s c = true) (hc : c < 20) : cnt (tak (en1 X s c) s) 20 = cnt (tak X s) 20 - 1 := by
  rw [cnt_clr h (fun j => tak_en1 X s c j), if_pos hc]
theorem cnt_pos {p : Nat → Bool} {c : Nat} (h : p c = true) : ∀ n, c < n → 1 ≤ cnt p n
  | 0, hc => absurd hc (Nat.not_lt_zero c)
  | n + 1, hc => by
    rw [cnt_s]
    have q := cnt_0 p n
    by_cases e : c = n
    · subst e; rw [if_pos h]; omega
    · have := cnt_pos h n (by omega)
      split <;> omega
theorem eN_5 {s s2 c2 : Nat} (h : s2 ≠ s ∨ 20 ≤ c2) : ∀ (n : Nat) {X : XM} {c : Int}, WO X → (s : Int) < nS X → TC X s c → eN n X s c 5 s2 c2 = X 5 s2 c2
  | 0, _, _, _, _, _ => rfl
  | n + 1, X, c, hO, hs, ht => by
    rw [eN]
    split
    · rfl
    · rename_i hc1
      rcases ht with e | ⟨r, e, h1, h2⟩
      · exact absurd e hc1
      · subst e
        rw [Int.toNat_natCast]
        have q := wo_nC hO
        have w := wo_en1 hO hs h1 h2
        rw [eN_5 h n w (by rw [nS_en1]; exact hs) (TC_fu (FU_fu w s)), en1_5, if_neg (by omega)]

