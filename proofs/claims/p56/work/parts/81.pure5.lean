/-! AUDITS, pure: a match that grows -/
theorem cnt_le_lt {p : Nat → Bool} {c : Nat} (h : p c = false) : ∀ n, c < n → cnt p n + 1 ≤ n
  | 0, hc => absurd hc (Nat.not_lt_zero c)
  | n + 1, hc => by
    rw [cnt_s]
    by_cases e : c = n
    · subst e
      have := cnt_0 p c
      rw [h, if_neg (by decide)]
      omega
    · have := cnt_le_lt h n (by omega)
      split <;> omega
theorem cnt_set {p q : Nat → Bool} {c : Nat} (h0 : p c = false) (h1 : q c = true) (h : ∀ j, j ≠ c → q j = p j) : ∀ n, cnt q n = cnt p n + (if c < n then 1 else 0)
  | 0 => by rw [if_neg (Nat.not_lt_zero c)]; rfl
  | n + 1 => by
    rw [cnt_s, cnt_s, cnt_set h0 h1 h n]
    by_cases e : n = c
    · subst e; rw [h0, h1, if_neg (Nat.lt_irrefl n), if_pos rfl, if_neg (by decide), if_pos (Nat.lt_succ_self n)]
    · rw [h n e]
      by_cases q : c < n
      · rw [if_pos q, if_pos (show c < n + 1 by omega)]; omega
      · rw [if_neg q, if_neg (show ¬ c < n + 1 by omega)]; omega
theorem cnt_cg {p q : Nat → Bool} : ∀ n, (∀ j, j < n → p j = q j) → cnt p n = cnt q n
  | 0, _ => rfl
  | n + 1, h => by rw [cnt_s, cnt_s, cnt_cg n (fun j hj => h j (by omega)), h n (Nat.lt_succ_self n)]
theorem cnt_lem {p q : Nat → Bool} (h : ∀ j, p j = true → q j = true) : ∀ n, cnt p n ≤ cnt q n
  | 0 => Int.le_refl 0
  | n + 1 => by
    have ih := cnt_lem h n
    rw [cnt_s, cnt_s]
    by_cases e : p n = true
    · rw [if_pos e, if_pos (h n e)]; omega
    · rw [if_neg e]; split <;> omega
/-- one place of a function new -/
def fs (f : Nat → Int) (i : Nat) (v : Int) : Nat → Int := fun j => if j = i then v else f j
theorem fs_at (f : Nat → Int) (i : Nat) (v : Int) : fs f i v i = v := if_pos rfl
theorem fs_ne {f : Nat → Int} {i : Nat} {v : Int} {j : Nat} (h : j ≠ i) : fs f i v j = f j := if_neg h
/-- how many courses G gives to k, when one is given elsewhere -/
theorem cg_fs {G : Nat → Int} {c : Nat} {v : Int} (k n : Nat) : cg (fs G c v) 0 k n = cg G 0 k n + (if c < n then (if v = (k : Int) then 1 else 0) - (if G c = (k : Int) then 1 else 0) else 0) := by
  induction n with
  | zero => rw [if_neg (Nat.not_lt_zero c)]; rfl
  | succ n ih =>
    rw [cg_s, cg_s, ih, Nat.zero_add]
    by_cases e : n = c
    · subst e
      rw [fs_at, if_neg (Nat.lt_irrefl n), if_pos (Nat.lt_succ_self n)]
      omega
    · rw [fs_ne e]
      by_cases q : c < n
      · rw [if_pos q, if_pos (show c < n + 1 by omega)]; omega
      · rw [if_neg q, if_neg (show ¬ c < n + 1 by omega)]; omega
section GRW
variable {m : Nat} {fit : Nat → Nat → Bool} {rm : Nat → Int}
/-- every course that is given goes to a slot that it fits -/
def Vd (m : Nat) (fit : Nat → Nat → Bool) (G : Nat → Int) : Prop := ∀ c, c < 20 → G c = -1 ∨ ∃ k, k < m ∧ G c = (k : Int) ∧ fit c k = true
/-- got counts them -/
def Cd (m : Nat) (G got : Nat → Int) : Prop := ∀ k, k < m → got k = cg G 0 k 20
/-- F is full and keeps its courses' slots -/
def CL (m : Nat) (fit : Nat → Nat → Bool) (rm : Nat → Int) (F : Nat → Bool) (G got : Nat → Int) : Prop :=
  (∀ k, k < m → F k = true → got k = rm k) ∧ ∀ c, c < 20 → ∀ k, k < m → G c = (k : Int) → F k = true → ∀ k2, k2 < m → fit c k2 = true → F k2 = true
theorem CL_or {F F2 : Nat → Bool} {G got : Nat → Int} (h1 : CL m fit rm F G got) (h2 : CL m fit rm F2 G got) : CL m fit rm (fun k => F k || F2 k) G got := by
  refine ⟨fun k hk q => ?_, fun c hc k hk e q k2 hk2 h => ?_⟩
  · rcases (Bool.or_eq_true _ _).mp q with q | q
    · exact h1.1 k hk q
    · exact h2.1 k hk q
  · rcases (Bool.or_eq_true _ _).mp q with q | q
    · exact (Bool.or_eq_true _ _).mpr (Or.inl (h1.2 c hc k hk e q k2 hk2 h))
    · exact (Bool.or_eq_true _ _).mpr (Or.inr (h2.2 c hc k hk e q k2 hk2 h))
/-- A SEARCH from the course x: fd the slots found, cm what would come into each, L of them -/
def SQ (m : Nat) (fit : Nat → Nat → Bool) (G : Nat → Int) (x : Nat) (fd cm : Nat → Int) (L : Nat) : Prop :=
  (L : Int) = cnt (fun k => decide (cm k ≠ -1)) m ∧ (∀ i, i < L → ∃ k, k < m ∧ fd i = (k : Int) ∧ cm k ≠ -1) ∧ (∀ i j, i < L → j < L → fd i = fd j → i = j) ∧
  (∀ k, k < m → cm k ≠ -1 → ∃ i, i < L ∧ fd i = (k : Int) ∧ ∃ c : Nat, c < 20 ∧ cm k = (c : Int) ∧ fit c k = true ∧ (c = x ∨ ∃ i2, i2 < i ∧ G c = fd i2))
theorem SQ_L {G : Nat → Int} {x L : Nat} {fd cm : Nat → Int} (h : SQ m fit G x fd cm L) : L ≤ m := by
  have := cnt_0 (fun k => decide (cm k ≠ -1)) m
  have := h.1
  omega
theorem SQ_0 {G : Nat → Int} {x : Nat} {fd cm : Nat → Int} (h : ∀ k, k < m → cm k = -1) : SQ m fit G x fd cm 0 := by
  refine ⟨?_, fun i hi => absurd hi (Nat.not_lt_zero i), fun i j hi => absurd hi (Nat.not_lt_zero i), fun k hk q => absurd (h k hk) q⟩
  have : cnt (fun k => decide (cm k ≠ -1)) m = cnt (fun _ => false) m := cnt_cg m (fun j hj => by simp [h j hj])
  rw [this]
  have z : ∀ n, cnt (fun _ => false) n = 0 := by
    intro n
    induction n with
    | zero => rfl
    | succ n ih => rw [cnt_s, ih]; rfl
  rw [z]
  rfl
/-- one more slot -/
theorem SQ_add {G : Nat → Int} {x L : Nat} {fd cm : Nat → Int} (h : SQ m fit G x fd cm L) {k c : Nat} (hk : k < m) (hc : c < 20) (h1 : cm k = -1) (hf : fit c k = true) (hp : c = x ∨ ∃ i2, i2 < L ∧ G c = fd i2) : SQ m fit G x (fs fd L k) (fs cm k c) (L + 1) ∧ L < m := by
  obtain ⟨a1, a2, a3, a4⟩ := h
  have hn : ∀ i, i < L → fd i ≠ (k : Int) := fun i hi e => by
    obtain ⟨k2, b1, b2, b3⟩ := a2 i hi
    have : k2 = k := by omega
    subst this
    exact b3 h1
  have hL : L < m := by
    have := cnt_le_lt (p := fun k => decide (cm k ≠ -1)) (c := k) (by simp [h1]) m hk
    omega
  refine ⟨⟨?_, fun i hi => ?_, fun i j hi hj e => ?_, fun k2 hk2 q => ?_⟩, hL⟩
  · rw [cnt_set (p := fun k => decide (cm k ≠ -1)) (c := k) (by simp [h1]) (by simp [fs_at]) (fun j hj => by simp [fs_ne hj]) m, if_pos hk, ← a1]
    omega
  · by_cases e : i = L
    · subst e; exact ⟨k, hk, fs_at _ _ _, by rw [fs_at]; omega⟩
    · obtain ⟨k2, b1, b2, b3⟩ := a2 i (by omega)
      refine ⟨k2, b1, by rw [fs_ne e]; exact b2, ?_⟩
      by_cases e2 : k2 = k
      · subst e2; rw [fs_at]; omega
      · rw [fs_ne e2]; exact b3
  · by_cases e1 : i = L <;> by_cases e2 : j = L
    · omega
    · subst e1
      rw [fs_at, fs_ne e2] at e
      exact absurd e.symm (hn j (by omega))
    · subst e2
      rw [fs_at, fs_ne e1] at e
      exact absurd e (hn i (by omega))
    · rw [fs_ne e1, fs_ne e2] at e
      exact a3 i j (by omega) (by omega) e
  · by_cases e : k2 = k
    · subst e
      refine ⟨L, Nat.lt_succ_self L, fs_at _ _ _, c, hc, fs_at _ _ _, hf, ?_⟩
      rcases hp with hp | ⟨i2, b1, b2⟩
      · exact Or.inl hp
      · exact Or.inr ⟨i2, b1, by rw [fs_ne (by omega)]; exact b2⟩
    · rw [fs_ne e] at q
      obtain ⟨i, b1, b2, c2, b3, b4, b5, b6⟩ := a4 k2 hk2 q
      refine ⟨i, by omega, by rw [fs_ne (by omega)]; exact b2, c2, b3, by rw [fs_ne e]; exact b4, b5, ?_⟩
      rcases b6 with b6 | ⟨i2, d1, d2⟩
      · exact Or.inl b6
      · exact Or.inr ⟨i2, d1, by rw [fs_ne (by omega)]; exact d2⟩
/-- the first n of what is found are full, and their courses' slots are found -/
def PR (m : Nat) (fit : Nat → Nat → Bool) (rm : Nat → Int) (G got fd cm : Nat → Int) (n : Nat) : Prop :=
  ∀ i, i < n → ∀ k, k < m → fd i = (k : Int) → got k = rm k ∧ ∀ c, c < 20 → G c = (k : Int) → ∀ k2, k2 < m → fit c k2 = true → cm k2 ≠ -1
/-- a search that ends without room -/
theorem SQ_fail {G got : Nat → Int} {x L n : Nat} {fd cm : Nat → Int} (h : SQ m fit G x fd cm L) (hp : PR m fit rm G got fd cm n) (hn : L ≤ n) : CL m fit rm (fun k => decide (cm k ≠ -1)) G got := by
  obtain ⟨a1, a2, a3, a4⟩ := h
  refine ⟨fun k hk q => ?_, fun c hc k hk e q k2 hk2 hf => ?_⟩
  · obtain ⟨i, b1, b2, -⟩ := a4 k hk (of_decide_eq_true q)
    exact (hp i (by omega) k hk b2).1
  · obtain ⟨i, b1, b2, -⟩ := a4 k hk (of_decide_eq_true q)
    exact decide_eq_true ((hp i (by omega) k hk b2).2 c hc e k2 hk2 hf)
/-- HANDING ON: G is what was given, H what is given now, z the slot that still has one too many, i its place -/
def HO (m : Nat) (fit : Nat → Nat → Bool) (rm : Nat → Int) (G got : Nat → Int) (x : Nat) (fd : Nat → Int) (L last : Nat) (H : Nat → Int) (z : Int) (i : Nat) : Prop :=
  Vd m fit H ∧ (∀ k, k < m → cg H 0 k 20 = got k + (if k = last then 1 else 0) - (if z = (k : Int) then 1 else 0)) ∧
  (∀ c, c ≠ x → (H c = -1 ↔ G c = -1)) ∧ (z ≠ -1 → H x = -1) ∧ (z = -1 → H x ≠ -1) ∧
  (∀ F, CL m fit rm F G got → (∀ k, k < m → z = (k : Int) → F k = false) ∧ ∀ c, c < 20 → ∀ k, k < m → F k = true → (H c = (k : Int) ↔ G c = (k : Int))) ∧
  (z = -1 ∨ (i < L ∧ z = fd i ∧ (∃ k, k < m ∧ z = (k : Int)) ∧ ∀ c, H c ≠ G c → ∃ i2, i ≤ i2 ∧ i2 < L ∧ G c = fd i2)) ∧ (∀ c, 20 ≤ c → H c = G c)
theorem HO_0 {G got : Nat → Int} {x L : Nat} {fd cm : Nat → Int} (hV : Vd m fit G) (hC : Cd m G got) (hx : G x = -1) (hS : SQ m fit G x fd cm L) {last i : Nat} (hi : i < L) (hl : fd i = (last : Int)) (hlm : last < m) (hr : got last < rm last) : HO m fit rm G got x fd L last G (last : Int) i := by
  refine ⟨hV, fun k hk => ?_, fun c _ => Iff.rfl, fun _ => hx, fun q => absurd q (by omega), fun F hF => ⟨fun k hk e => ?_, fun c _ k _ _ => Iff.rfl⟩, Or.inr ⟨hi, hl.symm, ⟨last, hlm, rfl⟩, fun c q => absurd rfl q⟩, fun _ _ => rfl⟩
  · rw [hC k hk]
    by_cases e : k = last
    · subst e; rw [if_pos rfl, if_pos rfl]; omega
    · rw [if_neg e, if_neg (by omega)]; omega
  · have : k = last := by omega
    subst this
    cases w : F k with
    | false => rfl
    | true => have := hF.1 k hk w; omega
theorem HO_s {G got : Nat → Int} {x L last i : Nat} {fd cm H : Nat → Int} (hx : G x = -1) (hxc : x < 20) (hS : SQ m fit G x fd cm L) {k : Nat} (hk : k < m) (h : HO m fit rm G got x fd L last H (k : Int) i) : ∃ c : Nat, c < 20 ∧ cm k = (c : Int) ∧ ∃ i', HO m fit rm G got x fd L last (fs H c (k : Int)) (H c) i' ∧ (H c = -1 ∨ i' < i) := by
  obtain ⟨h1, h2, h3, h4, h5, h6, h7, h8⟩ := h
  obtain ⟨a1, a2, a3, a4⟩ := hS
  rcases h7 with h7 | ⟨hi, hz, hk9, hch⟩
  · exact absurd h7 (by omega)
  obtain ⟨k3, b1, b2, b3⟩ := a2 i hi
  have hk3 : k3 = k := by omega
  subst hk3
  obtain ⟨j, c1, c2, c, c3, c4, c5, c6⟩ := a4 k3 hk b3
  have hj : j = i := a3 j i c1 hi (by omega)
  subst hj
  -- what it is given to now is what it was given to
  have hHG : H c = G c := by
    rcases c6 with rfl | ⟨i2, d1, d2⟩
    · rw [h4 (by omega), hx]
    · by_cases q : H c = G c
      · exact q
      · obtain ⟨i3, e1, e2, e3⟩ := hch c q
        have := a3 i2 i3 (by omega) e2 (by omega)
        omega
  have hxz : H x = -1 := h4 (by omega)
  have hcx : H c = -1 → c = x := fun q => by
    rcases c6 with rfl | ⟨i2, d1, d2⟩
    · rfl
    · obtain ⟨k4, f1, f2, -⟩ := a2 i2 (by omega)
      omega
  refine ⟨c, c3, c4, ?_⟩
  -- its place
  have hpl : H c = -1 ∨ ∃ i2, i2 < j ∧ G c = fd i2 := by
    rcases c6 with rfl | q
    · exact Or.inl hxz
    · exact Or.inr q
  have hcore : ∀ i', (H c = -1 ∨ (i' < L ∧ H c = fd i' ∧ (∃ k, k < m ∧ H c = (k : Int)) ∧ i' < j)) → HO m fit rm G got x fd L last (fs H c (k3 : Int)) (H c) i' := by
    intro i' hi'
    refine ⟨fun c' hc' => ?_, fun k' hk' => ?_, fun c' hc' => ?_, fun q => ?_, fun q => ?_, fun F hF => ⟨fun k' hk' e => ?_, fun c' hc' k' hk' hFk => ?_⟩, ?_, fun c' hc' => ?_⟩
    · by_cases e : c' = c
      · subst e; exact Or.inr ⟨k3, hk, fs_at _ _ _, c5⟩
      · rw [fs_ne e]; exact h1 c' hc'
    · rw [cg_fs, h2 k' hk', if_pos c3]
      omega
    · by_cases e : c' = c
      · subst e
        rw [fs_at]
        constructor
        · intro q; omega
        · intro q
          exact absurd (hcx (hHG.trans q)) hc'
      · rw [fs_ne e]; exact h3 c' hc'
    · have : x ≠ c := fun e => q (by rw [← e]; exact hxz)
      rw [fs_ne this]; exact hxz
    · have := hcx q
      subst this
      rw [fs_at]; omega
    · -- the slot before is not in F
      cases w : F k' with
      | false => rfl
      | true =>
        have e2 := ((h6 F hF).2 c c3 k' hk' w).mp e
        have := hF.2 c c3 k' hk' e2 w k3 hk c5
        have q := (h6 F hF).1 k3 hk rfl
        rw [q] at this
        cases this
    · by_cases e : c' = c
      · subst e
        rw [fs_at]
        have q := (h6 F hF).1 k3 hk rfl
        constructor
        · intro q2
          have : k' = k3 := by omega
          subst this
          rw [q] at hFk; cases hFk
        · intro q2
          have := hF.2 c' hc' k' hk' q2 hFk k3 hk c5
          rw [q] at this; cases this
      · rw [fs_ne e]; exact (h6 F hF).2 c' hc' k' hk' hFk
    · rcases hi' with q | ⟨q1, q2, q3, q4⟩
      · exact Or.inl q
      · refine Or.inr ⟨q1, q2, q3, fun c' hne => ?_⟩
        by_cases e : c' = c
        · subst e; exact ⟨i', Nat.le_refl i', q1, by rw [← hHG]; exact q2⟩
        · rw [fs_ne e] at hne
          obtain ⟨i3, e1, e2, e3⟩ := hch c' hne
          exact ⟨i3, by omega, e2, e3⟩
    · rw [fs_ne (by omega)]; exact h8 c' hc'
  rcases hpl with q | ⟨i2, d1, d2⟩
  · exact ⟨0, hcore 0 (Or.inl q), Or.inl q⟩
  · obtain ⟨k4, f1, f2, -⟩ := a2 i2 (by omega)
    exact ⟨i2, hcore i2 (Or.inr ⟨by omega, by omega, ⟨k4, f1, by omega⟩, d1⟩), Or.inr d1⟩
/-- behind the chain: the match has grown by x -/
def GR (m : Nat) (fit : Nat → Nat → Bool) (rm : Nat → Int) (G got : Nat → Int) (x : Nat) (H got2 : Nat → Int) : Prop :=
  Vd m fit H ∧ Cd m H got2 ∧ (∀ k, k < m → got2 k ≤ rm k) ∧ (∀ c, c ≠ x → (H c = -1 ↔ G c = -1)) ∧ H x ≠ -1 ∧ ∀ F, CL m fit rm F G got → CL m fit rm F H got2
theorem HO_end {G got : Nat → Int} {x L last i : Nat} {fd H : Nat → Int} (hr : ∀ k, k < m → got k ≤ rm k) (hl : got last < rm last) (hlm : last < m) (h : HO m fit rm G got x fd L last H (-1) i) {got2 : Nat → Int} (hg : ∀ k, got2 k = got k + (if k = last then 1 else 0)) (hF0 : ∀ F, CL m fit rm F G got → F last = false) : GR m fit rm G got x H got2 := by
  obtain ⟨h1, h2, h3, h4, h5, h6, h7, h8⟩ := h
  refine ⟨h1, fun k hk => ?_, fun k hk => ?_, h3, h5 rfl, fun F hF => ⟨fun k hk q => ?_, fun c hc k hk e q k2 hk2 hf => ?_⟩⟩
  · rw [hg, h2 k hk, if_neg (show ¬ (-1 : Int) = (k : Int) by omega)]; omega
  · have := hr k hk
    rw [hg]
    by_cases e : k = last
    · subst e; rw [if_pos rfl]; omega
    · rw [if_neg e]; omega
  · rw [hg, if_neg (fun e => by rw [e, hF0 F hF] at q; cases q)]
    rw [hF.1 k hk q]; omega
  · exact hF.2 c hc k hk (((h6 F hF).2 c hc k hk q).mp e) q k2 hk2 hf
theorem CL_last {G got : Nat → Int} {last : Nat} (hl : got last < rm last) (hlm : last < m) : ∀ F, CL m fit rm F G got → F last = false := fun F hF => by
  cases w : F last with
  | false => rfl
  | true => have := hF.1 last hlm w; omega
/-- A MATCH THAT IS MADE: courses fr .. n-1 have been tried -/
def GS (m : Nat) (fit : Nat → Nat → Bool) (rm : Nat → Int) (fr n : Nat) (G got : Nat → Int) (v : Int) : Prop :=
  Vd m fit G ∧ Cd m G got ∧ (∀ k, k < m → got k ≤ rm k) ∧ (∀ c, c < 20 → (c < fr ∨ n ≤ c) → G c = -1) ∧ v = cnt (fun c => decide (G c ≠ -1)) 20 ∧
  ∃ F, CL m fit rm F G got ∧ ∀ c, fr ≤ c → c < n → G c = -1 → ∀ k, k < m → fit c k = true → F k = true
theorem cnt_none (G : Nat → Int) : ∀ n, (∀ c, c < n → G c = -1) → cnt (fun c => decide (G c ≠ -1)) n = 0
  | 0, _ => rfl
  | n + 1, h => by rw [cnt_s, cnt_none G n (fun c hc => h c (by omega)), if_neg (by simp [h n (Nat.lt_succ_self n)])]; rfl
theorem cg_none {G : Nat → Int} (k : Nat) : ∀ n, (∀ c, c < n → G c = -1) → cg G 0 k n = 0
  | 0, _ => rfl
  | n + 1, h => by rw [cg_s, cg_none k n (fun c hc => h c (by omega)), Nat.zero_add, h n (Nat.lt_succ_self n), if_neg (by omega)]; rfl
theorem CL_none (G got : Nat → Int) : CL m fit rm (fun _ => false) G got := ⟨fun k _ q => absurd q Bool.false_ne_true, fun c _ k _ _ q => absurd q Bool.false_ne_true⟩
theorem GS_0 {fr : Nat} {G got : Nat → Int} (h1 : ∀ c, c < 20 → G c = -1) (h2 : ∀ k, k < m → got k = 0) (h3 : ∀ k, k < m → 0 ≤ rm k) : GS m fit rm fr fr G got 0 :=
  ⟨fun c hc => Or.inl (h1 c hc), fun k hk => by rw [h2 k hk, cg_none k 20 h1], fun k hk => by rw [h2 k hk]; exact h3 k hk, fun c hc _ => h1 c hc, (cnt_none G 20 h1).symm, fun _ => false, CL_none G got, fun c a b => absurd a (by omega)⟩
theorem GS_skip {fr n : Nat} {G got : Nat → Int} {v : Int} (h : GS m fit rm fr n G got v) (hf : ∀ k, k < m → fit n k = false) : GS m fit rm fr (n + 1) G got v := by
  obtain ⟨h1, h2, h3, h4, h5, F, h6, h7⟩ := h
  refine ⟨h1, h2, h3, fun c hc q => h4 c hc (by omega), h5, F, h6, fun c a b e k hk q => ?_⟩
  by_cases z : c = n
  · subst z; rw [hf k hk] at q; cases q
  · exact h7 c a (by omega) e k hk q
theorem GS_no {fr n : Nat} {G got : Nat → Int} {v : Int} (h : GS m fit rm fr n G got v) {F2 : Nat → Bool} (hF : CL m fit rm F2 G got) (hf : ∀ k, k < m → fit n k = true → F2 k = true) : GS m fit rm fr (n + 1) G got v := by
  obtain ⟨h1, h2, h3, h4, h5, F, h6, h7⟩ := h
  refine ⟨h1, h2, h3, fun c hc q => h4 c hc (by omega), h5, fun k => F k || F2 k, CL_or h6 hF, fun c a b e k hk q => ?_⟩
  by_cases z : c = n
  · subst z; exact (Bool.or_eq_true _ _).mpr (Or.inr (hf k hk q))
  · exact (Bool.or_eq_true _ _).mpr (Or.inl (h7 c a (by omega) e k hk q))
theorem GS_yes {fr n : Nat} {G got H got2 : Nat → Int} {v : Int} (hn : n < 20) (hfr : fr ≤ n) (h : GS m fit rm fr n G got v) (hg : GR m fit rm G got n H got2) : GS m fit rm fr (n + 1) H got2 (v + 1) := by
  obtain ⟨h1, h2, h3, h4, h5, F, h6, h7⟩ := h
  obtain ⟨g1, g2, g3, g4, g5, g6⟩ := hg
  refine ⟨g1, g2, g3, fun c hc q => (g4 c (by omega)).mpr (h4 c hc (by omega)), ?_, F, g6 F h6, fun c a b e k hk q => ?_⟩
  · have e0 : G n = -1 := h4 n hn (Or.inr (Nat.le_refl n))
    rw [cnt_set (p := fun c => decide (G c ≠ -1)) (c := n) (by simp [e0]) (by simpa using g5) (fun j hj => by
      by_cases z : G j = -1
      · simp [z, (g4 j hj).mpr z]
      · have z2 : ¬ H j = -1 := fun y => z ((g4 j hj).mp y)
        simp [z, z2]) 20, if_pos hn, h5]
  · by_cases z : c = n
    · subst z; exact absurd e g5
    · exact h7 c a (by omega) ((g4 c z).mp e) k hk q
theorem cg_sh {G : Nat → Int} {fr : Nat} (k : Nat) (h : ∀ c, c < fr → G c = -1) : ∀ n, cg G 0 k (fr + n) = cg G fr k n
  | 0 => cg_none k fr h
  | n + 1 => by rw [← Nat.add_assoc, cg_s, cg_s, cg_sh k h n, Nat.zero_add]
theorem cnt_sh {G : Nat → Int} {fr : Nat} (h : ∀ c, c < fr → G c = -1) : ∀ n, cnt (fun c => decide (G c ≠ -1)) (fr + n) = cnt (fun j => decide (G (fr + j) ≠ -1)) n
  | 0 => cnt_none G fr h
  | n + 1 => by rw [← Nat.add_assoc, cnt_s, cnt_s, cnt_sh h n]
/-- THE MATCH IS A BEST ONE -/
theorem GS_max {fr fill : Nat} {nd G got : Nat → Int} {v : Int} (hm : m ≤ 4) (hfr : fr ≤ 20) (hr : ∀ k, k < m → nd k ≤ 3) (hf : fill < 256) (hz : ∀ k, m ≤ k → k < 4 → dg fill k = 0) (hrm : ∀ k, k < m → rm k = nd k - dg fill k) (h : GS m fit rm fr 20 G got v) : IsMax (Rc m fit nd fr fill (20 - fr)) (nf fill + v) := by
  obtain ⟨h1, h2, h3, h4, h5, F, h6, h7⟩ := h
  have hlow : ∀ c, c < fr → G c = -1 := fun c hc => h4 c (by omega) (Or.inl hc)
  have hcg : ∀ k, cg G 0 k 20 = cg G fr k (20 - fr) := fun k => by
    have := cg_sh (G := G) k hlow (20 - fr)
    rwa [show fr + (20 - fr) = 20 by omega] at this
  have hcn := cnt_sh (G := G) hlow (20 - fr)
  rw [show fr + (20 - fr) = 20 by omega] at hcn
  rw [h5, hcn]
  refine match_max (F := F) hm hr hf hz (fun j hj => h1 (fr + j) (by omega)) (fun k hk => ?_) (fun k hk q => ?_) (fun j hj k hk e q k2 hk2 hf2 => h6.2 (fr + j) (by omega) k hk e q k2 hk2 hf2) (fun j hj e k2 hk2 q => h7 (fr + j) (by omega) (by omega) e k2 hk2 q)
  · have a := h2 k hk
    have b := h3 k hk
    have c := hrm k hk
    rw [← hcg]; omega
  · have a := h2 k hk
    have b := h6.1 k hk q
    have c := hrm k hk
    rw [← hcg]; omega
end GRW
