/-! somebody new, term by term -/
/-- the newcomer's rows say f; nothing else changed -/
def NWC (X : XM) (f : Nat → Int) (Y : XM) : Prop := (∀ k, k ≠ 8 → k ≠ 9 → k ≠ 11 → Y k = X k) ∧ (∀ i, i ≠ 16 → Y 8 i = X 8 i) ∧ (∀ i, i ≠ 16 → Y 9 i = X 9 i) ∧ (∀ i, i < 320 → Y 11 i = X 11 i) ∧ (∀ c, c < 20 → Y 8 16 c = if f c ≠ 0 then 100 else -1) ∧ (∀ c, c < 20 → Y 9 16 c = if f c ≠ 0 then 1 else 0)
theorem bsT_cgs {X Y : XM} {s c : Nat} (h6 : Y 6 = X 6) (h11 : Y 11 (20 * s + c) = X 11 (20 * s + c)) : ∀ k, bsT Y s c k = bsT X s c k
  | 0 => by show (if mvd Y s c = true then (50 : Int) else -1) = (if mvd X s c = true then (50 : Int) else -1); unfold mvd; rw [h6]
  | k + 1 => by show (if bsT Y s c k < Y 11 (20 * s + c) k then Y 11 (20 * s + c) k else bsT Y s c k) = _; rw [bsT_cgs h6 h11 k, h11]; rfl
theorem wo_nw {X Y : XM} {f : Nat → Int} (h : WO X) (hY : NWC X f Y) : WO Y := by
  obtain ⟨hk, h8, h9, h11, _, _⟩ := hY
  have hS : 0 ≤ X 1 1 2 ∧ X 1 1 2 ≤ 16 := wo_nS h
  have e0 : Y 0 = X 0 := hk 0 (by decide) (by decide) (by decide)
  have e1 : Y 1 = X 1 := hk 1 (by decide) (by decide) (by decide)
  have e2 : Y 2 = X 2 := hk 2 (by decide) (by decide) (by decide)
  have e3 : Y 3 = X 3 := hk 3 (by decide) (by decide) (by decide)
  have e4 : Y 4 = X 4 := hk 4 (by decide) (by decide) (by decide)
  have e5 : Y 5 = X 5 := hk 5 (by decide) (by decide) (by decide)
  have e6 : Y 6 = X 6 := hk 6 (by decide) (by decide) (by decide)
  have e7 : Y 7 = X 7 := hk 7 (by decide) (by decide) (by decide)
  have e12 : Y 12 = X 12 := hk 12 (by decide) (by decide) (by decide)
  have e13 : Y 13 = X 13 := hk 13 (by decide) (by decide) (by decide)
  have e14 : Y 14 = X 14 := hk 14 (by decide) (by decide) (by decide)
  have e15 : Y 15 = X 15 := hk 15 (by decide) (by decide) (by decide)
  have e16 : Y 16 = X 16 := hk 16 (by decide) (by decide) (by decide)
  refine ⟨?_, ?_, ?_, ?_, ?_, ?_, ?_, ?_, ?_, ?_, ?_, ?_, ?_, ?_, ?_, ?_, ?_, ?_, ?_, ?_, ?_, ?_, ?_, ?_, ?_, ?_, ?_, ?_, ?_, ?_, ?_, ?_, ?_, ?_, ?_, ?_, ?_, trivial⟩
  · try simp only [nC, nS, nF, nR, e0, e1, e2, e3, e4, e5, e6, e7, e12, e13, e14, e15, e16]
    exact wo_nC h
  · try simp only [nC, nS, nF, nR, e0, e1, e2, e3, e4, e5, e6, e7, e12, e13, e14, e15, e16]
    exact wo_nS h
  · try simp only [nC, nS, nF, nR, e0, e1, e2, e3, e4, e5, e6, e7, e12, e13, e14, e15, e16]
    exact wo_nF h
  · try simp only [nC, nS, nF, nR, e0, e1, e2, e3, e4, e5, e6, e7, e12, e13, e14, e15, e16]
    exact wo_nR h
  · try simp only [nC, nS, nF, nR, e0, e1, e2, e3, e4, e5, e6, e7, e12, e13, e14, e15, e16]
    exact wo_day h
  · try simp only [nC, nS, nF, nR, e0, e1, e2, e3, e4, e5, e6, e7, e12, e13, e14, e15, e16]
    exact wo_term h
  · try simp only [nC, nS, nF, nR, e0, e1, e2, e3, e4, e5, e6, e7, e12, e13, e14, e15, e16]
    exact wo_crd h
  · try simp only [nC, nS, nF, nR, e0, e1, e2, e3, e4, e5, e6, e7, e12, e13, e14, e15, e16]
    exact wo_sea h
  · try simp only [nC, nS, nF, nR, e0, e1, e2, e3, e4, e5, e6, e7, e12, e13, e14, e15, e16]
    exact wo_req h
  · try simp only [nC, nS, nF, nR, e0, e1, e2, e3, e4, e5, e6, e7, e12, e13, e14, e15, e16]
    exact wo_res h
  · try simp only [nC, nS, nF, nR, e0, e1, e2, e3, e4, e5, e6, e7, e12, e13, e14, e15, e16]
    exact wo_wN h
  · try simp only [nC, nS, nF, nR, e0, e1, e2, e3, e4, e5, e6, e7, e12, e13, e14, e15, e16]
    exact wo_wA h
  · try simp only [nC, nS, nF, nR, e0, e1, e2, e3, e4, e5, e6, e7, e12, e13, e14, e15, e16]
    exact wo_maj h
  · try simp only [nC, nS, nF, nR, e0, e1, e2, e3, e4, e5, e6, e7, e12, e13, e14, e15, e16]
    exact wo_t01 h
  · try simp only [nC, nS, nF, nR, e0, e1, e2, e3, e4, e5, e6, e7, e12, e13, e14, e15, e16]
    exact wo_m01 h
  · try simp only [nC, nS, nF, nR, e0, e1, e2, e3, e4, e5, e6, e7, e12, e13, e14, e15, e16]
    exact wo_tm h
  · intro s c h1 h2; simp only [nS, e1] at h1; rw [h8 s (by omega)]; exact wo_bst h s c h1 h2
  · intro s c h1 h2; simp only [nS, e1] at h1; rw [h9 s (by omega)]; exact wo_tri h s c h1 h2
  · intro s c k h1 h2 h3; simp only [nS, e1] at h1; rw [h9 s (by omega)] at h3; rw [h11 _ (by omega)]; exact wo_trd h s c k h1 h2 h3
  · intro s c h1 h2; simp only [nS, e1] at h1; rw [h8 s (by omega), h9 s (by omega), bsT_cgs e6 (h11 _ (by omega))]; exact wo_bsq h s c h1 h2
  · intro s c h1 h2 h3; simp only [nS, nC, e1] at h1 h2; rw [e5, e6, h9 s (by omega)]; exact wo_far h s c h1 h2 h3
  · try simp only [nC, nS, nF, nR, e0, e1, e2, e3, e4, e5, e6, e7, e12, e13, e14, e15, e16]
    exact wo_dep h
  · try simp only [nC, nS, nF, nR, e0, e1, e2, e3, e4, e5, e6, e7, e12, e13, e14, e15, e16]
    exact wo_dp0 h
  · try simp only [nC, nS, nF, nR, e0, e1, e2, e3, e4, e5, e6, e7, e12, e13, e14, e15, e16]
    exact wo_fk h
  · try simp only [nC, nS, nF, nR, e0, e1, e2, e3, e4, e5, e6, e7, e12, e13, e14, e15, e16]
    exact wo_f0 h
  · try simp only [nC, nS, nF, nR, e0, e1, e2, e3, e4, e5, e6, e7, e12, e13, e14, e15, e16]
    exact wo_f1 h
  · try simp only [nC, nS, nF, nR, e0, e1, e2, e3, e4, e5, e6, e7, e12, e13, e14, e15, e16]
    exact wo_f2 h
  · try simp only [nC, nS, nF, nR, e0, e1, e2, e3, e4, e5, e6, e7, e12, e13, e14, e15, e16]
    exact wo_f3 h
  · try simp only [nC, nS, nF, nR, e0, e1, e2, e3, e4, e5, e6, e7, e12, e13, e14, e15, e16]
    exact wo_f4 h
  · try simp only [nC, nS, nF, nR, e0, e1, e2, e3, e4, e5, e6, e7, e12, e13, e14, e15, e16]
    exact wo_rul h
  · try simp only [nC, nS, nF, nR, e0, e1, e2, e3, e4, e5, e6, e7, e12, e13, e14, e15, e16]
    exact wo_r01 h
  · try simp only [nC, nS, nF, nR, e0, e1, e2, e3, e4, e5, e6, e7, e12, e13, e14, e15, e16]
    exact wo_rm4 h
  · intro s c h1 h2 h3; simp only [nS, e1] at h1; rw [e5] at h3; rw [h9 s (by omega)]; exact wo_tk3 h s c h1 h2 h3
  · try simp only [nC, nS, nF, nR, e0, e1, e2, e3, e4, e5, e6, e7, e12, e13, e14, e15, e16]
    exact wo_w6 h
  · intro c k h1 h2; simp only [nC, e1] at h1 h2; have q : 0 ≤ X 2 (4 + c) (k + 1) ∧ X 2 (4 + c) (k + 1) < X 1 1 2 := wo_wA h c k h1 h2; rw [e2, h9 _ (by omega)]; exact wo_wt3 h c k h1 h2
  · try simp only [nC, nS, nF, nR, e0, e1, e2, e3, e4, e5, e6, e7, e12, e13, e14, e15, e16]
    exact wo_deg h
  · try simp only [nC, nS, nF, nR, e0, e1, e2, e3, e4, e5, e6, e7, e12, e13, e14, e15, e16]
    exact wo_f7 h
theorem wx_nw {ν : Nat → Nat → Bool} {X Y : XM} {f : Nat → Int} (h0 : WX ν X) (hY : NWC X f Y) : WX ν Y := by
  refine ⟨wo_nw h0.1 hY, ?_⟩
  have h := h0.2
  obtain ⟨hk, _, _, _, _, _⟩ := hY
  have e0 : Y 0 = X 0 := hk 0 (by decide) (by decide) (by decide)
  have e1 : Y 1 = X 1 := hk 1 (by decide) (by decide) (by decide)
  have e2 : Y 2 = X 2 := hk 2 (by decide) (by decide) (by decide)
  have e3 : Y 3 = X 3 := hk 3 (by decide) (by decide) (by decide)
  have e4 : Y 4 = X 4 := hk 4 (by decide) (by decide) (by decide)
  have e5 : Y 5 = X 5 := hk 5 (by decide) (by decide) (by decide)
  have e6 : Y 6 = X 6 := hk 6 (by decide) (by decide) (by decide)
  have e7 : Y 7 = X 7 := hk 7 (by decide) (by decide) (by decide)
  have e12 : Y 12 = X 12 := hk 12 (by decide) (by decide) (by decide)
  have e13 : Y 13 = X 13 := hk 13 (by decide) (by decide) (by decide)
  have e14 : Y 14 = X 14 := hk 14 (by decide) (by decide) (by decide)
  have e15 : Y 15 = X 15 := hk 15 (by decide) (by decide) (by decide)
  have e16 : Y 16 = X 16 := hk 16 (by decide) (by decide) (by decide)
  refine ⟨?_, ?_, ?_, ?_, ?_, ?_, ?_, ?_, ?_, ?_, ?_, trivial⟩
  · try simp only [nC, nS, nF, nR, e0, e1, e2, e3, e4, e5, e6, e7, e12, e13, e14, e15, e16]
    exact wv_stu h
  · try simp only [nC, nS, nF, nR, e0, e1, e2, e3, e4, e5, e6, e7, e12, e13, e14, e15, e16]
    exact wv_new h
  · try simp only [nC, nS, nF, nR, e0, e1, e2, e3, e4, e5, e6, e7, e12, e13, e14, e15, e16]
    exact wv_crs h
  · try simp only [nC, nS, nF, nR, e0, e1, e2, e3, e4, e5, e6, e7, e12, e13, e14, e15, e16]
    exact wv_rul h
  · try simp only [nC, nS, nF, nR, e0, e1, e2, e3, e4, e5, e6, e7, e12, e13, e14, e15, e16]
    exact wv_frm h
  · try simp only [nC, nS, nF, nR, e0, e1, e2, e3, e4, e5, e6, e7, e12, e13, e14, e15, e16]
    exact wv_lst h
  · try simp only [nC, nS, nF, nR, e0, e1, e2, e3, e4, e5, e6, e7, e12, e13, e14, e15, e16]
    exact wv_ls0 h
  · try simp only [nC, nS, nF, nR, e0, e1, e2, e3, e4, e5, e6, e7, e12, e13, e14, e15, e16]
    exact wv_le h
  · try simp only [nC, nS, nF, nR, e0, e1, e2, e3, e4, e5, e6, e7, e12, e13, e14, e15, e16]
    exact wv_wst h
  · try simp only [nC, nS, nF, nR, e0, e1, e2, e3, e4, e5, e6, e7, e12, e13, e14, e15, e16]
    exact wv_ws0 h
  · try simp only [nC, nS, nF, nR, e0, e1, e2, e3, e4, e5, e6, e7, e12, e13, e14, e15, e16]
    exact wv_cap h
def mayN (O : XM) (nf : Nat → Int) (c : Nat) : Bool := decide (O 12 c 5 = -1) || holF O (nbF nf) ntF (neF O nf) (O 12 c 5).toNat
/-- what somebody new has passed behind t terms -/
def nfN (O : XM) (nf : Nat → Int) : Nat → Int := fun c => if nf c ≠ 0 then 1 else if (c : Int) < nC O ∧ mayN O nf c = true then 1 else 0
def nfS (O : XM) : Nat → Nat → Int
  | 0 => fun _ => 0
  | t + 1 => nfN O (nfS O t)
/-- the first of n terms behind which c is passed -/
def tt (O : XM) (c : Nat) : Nat → Int
  | 0 => -1
  | n + 1 => if tt O c n ≠ -1 then tt O c n else if nfS O (n + 1) c ≠ 0 then ((n + 1 : Nat) : Int) else -1
theorem nfS_m {O : XM} {t c : Nat} (h : nfS O t c ≠ 0) : nfS O (t + 1) c ≠ 0 := by
  show (if _ then (1 : Int) else _) ≠ 0
  rw [if_pos h]; decide
theorem nfS_01 (O : XM) (t c : Nat) : nfS O t c = 0 ∨ nfS O t c = 1 := by
  cases t with
  | zero => exact Or.inl rfl
  | succ t =>
    show (if _ then (1 : Int) else if _ then 1 else 0) = 0 ∨ (if _ then (1 : Int) else if _ then 1 else 0) = 1
    split
    · exact Or.inr rfl
    · split <;> simp
theorem nfS_far {O : XM} {c : Nat} (hc : nC O ≤ (c : Int)) : ∀ t, nfS O t c = 0
  | 0 => rfl
  | t + 1 => by
    show (if _ then (1 : Int) else if _ then 1 else 0) = 0
    rw [if_neg (fun z => z (nfS_far hc t)), if_neg (by omega)]
theorem nfS_eq {O : XM} {t : Nat} (h : nfS O (t + 1) = nfS O t) : ∀ k, nfS O (t + k) = nfS O t
  | 0 => rfl
  | k + 1 => by
    have ih := nfS_eq h k
    show nfN O (nfS O (t + k)) = _
    rw [ih]
    exact h
theorem cnt_le {p q : Nat → Bool} (h : ∀ c, p c = true → q c = true) : ∀ n, cnt p n ≤ cnt q n
  | 0 => Int.le_refl 0
  | n + 1 => by
    have ih := cnt_le h n
    rw [cnt_s, cnt_s]
    by_cases e : p n = true
    · rw [if_pos e, if_pos (h n e)]; omega
    · rw [if_neg e]; split <;> omega
theorem cnt_lt {p q : Nat → Bool} (h : ∀ c, p c = true → q c = true) {x : Nat} (h1 : p x = false) (h2 : q x = true) : ∀ n, x < n → cnt p n + 1 ≤ cnt q n
  | 0, hn => absurd hn (Nat.not_lt_zero _)
  | n + 1, hn => by
    rw [cnt_s, cnt_s]
    by_cases e : x = n
    · subst e
      rw [h1, h2, if_neg (by decide), if_pos rfl]
      have := cnt_le h x
      omega
    · have ih := cnt_lt h h1 h2 n (by omega)
      by_cases e2 : p n = true
      · rw [if_pos e2, if_pos (h n e2)]; omega
      · rw [if_neg e2]; split <;> omega
theorem nfS_grow {O : XM} (t : Nat) : nfS O (t + 1) = nfS O t ∨ (t : Int) + 1 ≤ cnt (fun c => decide (nfS O (t + 1) c ≠ 0)) (nC O).toNat := by
  induction t with
  | zero =>
    by_cases h : nfS O 1 = nfS O 0
    · exact Or.inl h
    · right
      obtain ⟨x, hx⟩ : ∃ x, nfS O 1 x ≠ nfS O 0 x := Classical.byContradiction fun z => h (funext fun x => Classical.byContradiction fun y => z ⟨x, y⟩)
      have hx2 : nfS O 1 x ≠ 0 := hx
      have hlt : (x : Int) < nC O := Classical.byContradiction fun z => hx2 (nfS_far (by omega) 1)
      have k := cnt_lt (p := fun _ => false) (q := fun c => decide (nfS O 1 c ≠ 0)) (fun c hc => by cases hc) (x := x) rfl (decide_eq_true hx2) (nC O).toNat (by omega)
      have k0 := cnt_0 (fun _ => false) (nC O).toNat
      show ((0 : Nat) : Int) + 1 ≤ cnt (fun c => decide (nfS O 1 c ≠ 0)) (nC O).toNat
      omega
  | succ t ih =>
    by_cases h : nfS O (t + 1 + 1) = nfS O (t + 1)
    · exact Or.inl h
    · right
      have h0 : nfS O (t + 1) ≠ nfS O t := fun z => h (by
        have e := nfS_eq z 2
        exact (show nfS O (t + 1 + 1) = nfS O t from e).trans z.symm)
      have ih2 := ih.resolve_left h0
      obtain ⟨x, hx⟩ : ∃ x, nfS O (t + 1 + 1) x ≠ nfS O (t + 1) x := Classical.byContradiction fun z => h (funext fun x => Classical.byContradiction fun y => z ⟨x, y⟩)
      have hx1 : nfS O (t + 1) x = 0 := Classical.byContradiction fun z => hx (by
        have a := (nfS_01 O (t + 1) x).resolve_left z
        have b := (nfS_01 O (t + 1 + 1) x).resolve_left (nfS_m z)
        rw [a, b])
      have hx2 : nfS O (t + 1 + 1) x ≠ 0 := fun z => hx (z.trans hx1.symm)
      have hlt : (x : Int) < nC O := Classical.byContradiction fun z => hx2 (nfS_far (by omega) _)
      have k := cnt_lt (p := fun c => decide (nfS O (t + 1) c ≠ 0)) (q := fun c => decide (nfS O (t + 1 + 1) c ≠ 0)) (fun c hc => decide_eq_true (nfS_m (of_decide_eq_true hc))) (x := x) (decide_eq_false (fun z => z hx1)) (decide_eq_true hx2) (nC O).toNat (by omega)
      omega
theorem nfS_stop {O : XM} (hO : WO O) (k : Nat) : nfS O ((nC O).toNat + k) = nfS O (nC O).toNat := by
  have q := wo_nC hO
  refine nfS_eq ?_ k
  rcases nfS_grow (O := O) (nC O).toNat with h | h
  · exact h
  · have := cnt_0 (fun c => decide (nfS O ((nC O).toNat + 1) c ≠ 0)) (nC O).toNat
    omega
theorem tt_0 {O : XM} {c : Nat} : ∀ {n : Nat}, tt O c n = -1 → ∀ k, k < n → nfS O (k + 1) c = 0
  | 0, _, k, hk => absurd hk (Nat.not_lt_zero _)
  | n + 1, h, k, hk => by
    have h' : (if tt O c n ≠ -1 then tt O c n else if nfS O (n + 1) c ≠ 0 then ((n + 1 : Nat) : Int) else -1) = -1 := h
    by_cases e : tt O c n = -1
    · rw [if_neg (fun z => z e)] at h'
      by_cases e2 : k = n
      · subst e2
        exact Classical.byContradiction fun z => by rw [if_pos z] at h'; omega
      · exact tt_0 e k (by omega)
    · rw [if_pos e] at h'
      exact absurd h' e
theorem tt_hit {O : XM} {c n : Nat} (h : tt O c n = -1) (h2 : nfS O (n + 1) c ≠ 0) : ∀ m, n < m → tt O c m = ((n + 1 : Nat) : Int)
  | 0, hm => absurd hm (Nat.not_lt_zero _)
  | m + 1, hm => by
    show (if tt O c m ≠ -1 then tt O c m else if nfS O (m + 1) c ≠ 0 then ((m + 1 : Nat) : Int) else -1) = _
    by_cases e : n = m
    · subst e; rw [if_neg (fun z => z h), if_pos h2]
    · rw [tt_hit h h2 m (by omega), if_pos (by omega)]
theorem tt_miss {O : XM} {c n : Nat} (h : tt O c n = -1) (h2 : nfS O (n + 1) c = 0) : tt O c (n + 1) = -1 := by
  show (if tt O c n ≠ -1 then tt O c n else if nfS O (n + 1) c ≠ 0 then ((n + 1 : Nat) : Int) else -1) = _
  rw [if_neg (fun z => z h), if_neg (fun z => z h2)]
theorem tt_stop {O : XM} (hO : WO O) {c : Nat} (hc : (c : Int) < nC O) : ∀ k, tt O c ((nC O).toNat + k) = tt O c (nC O).toNat
  | 0 => rfl
  | k + 1 => by
    have ih := tt_stop hO hc k
    show (if tt O c ((nC O).toNat + k) ≠ -1 then tt O c ((nC O).toNat + k) else if nfS O ((nC O).toNat + (k + 1)) c ≠ 0 then _ else -1) = _
    rw [ih, nfS_stop hO]
    by_cases e : tt O c (nC O).toNat = -1
    · have z := tt_0 e ((nC O).toNat - 1) (by omega)
      rw [show (nC O).toNat - 1 + 1 = (nC O).toNat by omega] at z
      rw [if_neg (fun y => y e), if_neg (fun y => y z), e]
    · rw [if_pos e]
theorem tt_20 {O : XM} (hO : WO O) {c : Nat} (hc : (c : Int) < nC O) : tt O c 20 = tt O c (nC O).toNat := by
  have q := wo_nC hO
  have k := tt_stop hO hc (20 - (nC O).toNat)
  rw [show (nC O).toNat + (20 - (nC O).toNat) = 20 by omega] at k
  exact k
theorem holF_cg {O : XM} (hO : WO O) {b b' : Nat → Int} {t t' : Nat → Bool} {e : Int} (hb : ∀ c : Nat, (c : Int) < nC O → b c = b' c) (ht : ∀ c : Nat, (c : Int) < nC O → t c = t' c) : ∀ n f : Nat, f < n → (f : Int) < nF O → holF O b t e f = holF O b' t' e f
  | 0, f, h, _ => absurd h (Nat.not_lt_zero _)
  | n + 1, f, h, hf => by
    have h0 := wo_fk hO f hf
    have ih := fun p (hp : p < f) => holF_cg (e := e) hO hb ht n p (by omega) (by omega)
    rw [holF_ev hO hf, holF_ev hO hf, evF_congr hO hf ih]
    unfold evF
    rcases (show O 16 f 9 = 0 ∨ O 16 f 9 = 1 ∨ O 16 f 9 = 2 ∨ O 16 f 9 = 3 ∨ O 16 f 9 = 4 by omega) with e0 | e0 | e0 | e0 | e0
    · have b1 := wo_f0 hO f hf e0
      simp only [e0, if_true]
      rw [hb _ (by omega)]
    · have b1 := wo_f1 hO f hf e0
      simp [e0]
      rw [hb _ (by omega), ht _ (by omega)]
    · simp [e0]
    · simp [e0]
    · simp [e0]
theorem crS_cg {O : XM} {p q : Nat → Bool} : ∀ n, (∀ c, c < n → p c = q c) → crS O p n = crS O q n
  | 0, _ => rfl
  | n + 1, h => by rw [crS_s, crS_s, crS_cg n (fun c hc => h c (by omega)), h n (by omega)]
theorem holF_eq {O O' : XM} (h16 : O' 16 = O 16) (b : Nat → Int) (t : Nat → Bool) (e : Int) (f : Nat) : holF O' b t e f = holF O b t e f := by
  have k : ∀ n, ttF O' b t e n = ttF O b t e n := by
    intro n
    induction n with
    | zero => rfl
    | succ n ih =>
      funext f
      show (if f = n then evF O' b t e n (ttF O' b t e n) else ttF O' b t e n f) = _
      rw [ih]
      unfold evF
      rw [h16]
      rfl
  exact congrFun (k (f + 1)) f
theorem crS_eq {O O' : XM} (h12 : O' 12 = O 12) (p : Nat → Bool) : ∀ n, crS O' p n = crS O p n
  | 0 => rfl
  | n + 1 => by rw [crS_s, crS_s, crS_eq h12 p n, h12]
/-- the newcomer's truths are those of somebody new -/
theorem nw_hol {X Y : XM} {f : Nat → Int} (hO : WO X) (hY : NWC X f Y) (h5 : ∀ c, c < 20 → X 5 16 c = 0) {q : Nat} (hq : (q : Int) < nF X) : hol Y 16 q = holF X (nbF f) ntF (neF X f) q := by
  have hC := wo_nC hO
  have e16 : Y 16 = X 16 := hY.1 16 (by decide) (by decide) (by decide)
  have e12 : Y 12 = X 12 := hY.1 12 (by decide) (by decide) (by decide)
  have e1 : Y 1 = X 1 := hY.1 1 (by decide) (by decide) (by decide)
  have e5 : Y 5 = X 5 := hY.1 5 (by decide) (by decide) (by decide)
  have en : nC Y = nC X := by unfold nC; rw [e1]
  have h8 := hY.2.2.2.2.1
  have ee : ernd Y 16 = neF X f := by
    unfold ernd neF
    rw [en, crS_eq e12]
    refine crS_cg _ (fun c hc => ?_)
    unfold psd
    rw [h8 c (by omega)]
    by_cases z : f c = 0
    · rw [if_neg (fun y => y z), decide_eq_false (by omega), decide_eq_false (fun y => y z)]
    · rw [if_pos z, decide_eq_true (by omega), decide_eq_true z]
  unfold hol
  rw [holF_eq e16, ee]
  refine holF_cg hO (fun c hc => ?_) (fun c hc => ?_) (q + 1) q (Nat.lt_succ_self q) hq
  · exact h8 c (by omega)
  · unfold tak
    rw [e5, h5 c (by omega)]
    rfl
