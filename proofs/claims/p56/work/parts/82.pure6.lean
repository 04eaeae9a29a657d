/-! AUDITS, pure: short rules, the rules of a major -/
/-- the room, one less at k -/
def rm1 (rm : Nat → Int) (k : Nat) : Nat → Int := fun j => if j = k then rm j - 1 else rm j
section SHT
variable {m : Nat} {fit : Nat → Nat → Bool} {rm : Nat → Int}
theorem rm1_le (k : Nat) : ∀ j, j < m → rm1 rm k j ≤ rm j := fun j _ => by unfold rm1; split <;> omega
/-- what is reached with one less at k is what is reached and leaves room at k -/
theorem Rc_rm1 {fr fill k n : Nat} (hm : m ≤ 4) (hr : ∀ j, j < m → rm j ≤ 3) (hf : fill < 256) (hk : k < m) (hc : ∀ j, j < m → (dg fill j : Int) ≤ rm1 rm k j) : ∀ i g, Rc m fit (rm1 rm k) fr fill i g ↔ Rc m fit rm fr fill i g ∧ (dg g k : Int) < rm k := by
  have hr1 : ∀ j, j < m → rm1 rm k j ≤ 3 := fun j hj => Int.le_trans (rm1_le k j hj) (hr j hj)
  intro i g
  constructor
  · intro h
    refine ⟨Rc_mono (rm1_le k) i h, ?_⟩
    have := Rc_cap hm hr1 hf hc i h k hk
    unfold rm1 at this
    rw [if_pos rfl] at this
    omega
  · rintro ⟨h, h2⟩
    induction i generalizing g with
    | zero => exact h
    | succ i ih =>
      rcases h with h | ⟨f, k2, hk2, e, h3, h4, h5⟩
      · exact Or.inl (ih g h h2)
      · have a := Rc_lt hm hr hf i h3
        have b := hr k2 hk2
        have u := (dg_up a (show k2 < 4 by omega) (by omega)).2 k (by omega)
        rw [e, u] at h2
        by_cases q : k = k2
        · subst q
          rw [if_pos rfl] at h2
          exact Or.inr ⟨f, k, hk2, e, ih f h3 (by omega), h4, by unfold rm1; rw [if_pos rfl]; omega⟩
        · rw [if_neg q] at h2
          exact Or.inr ⟨f, k2, hk2, e, ih f h3 (by omega), h4, by unfold rm1; rw [if_neg (fun z => q z.symm)]; exact h5⟩
/-- AM: a match as large, that leaves room at k, and moves only courses of slots in S -/
def AM (m : Nat) (fit : Nat → Nat → Bool) (rm : Nat → Int) (G : Nat → Int) (S : Nat → Bool) (k : Nat) : Prop :=
  ∃ H : Nat → Int, Vd m fit H ∧ (∀ j, j < m → cg H 0 j 20 ≤ rm j) ∧ cg H 0 k 20 + 1 ≤ rm k ∧ (∀ c, H c = -1 ↔ G c = -1) ∧ ∀ c, c < 20 → ∀ j, j < m → G c = (j : Int) → S j = false → H c = G c
theorem AM_mono {G : Nat → Int} {S S2 : Nat → Bool} {k : Nat} (hS : ∀ j, S j = true → S2 j = true) (h : AM m fit rm G S k) : AM m fit rm G S2 k := by
  obtain ⟨H, h1, h2, h3, h4, h5⟩ := h
  refine ⟨H, h1, h2, h3, h4, fun c hc j hj e q => h5 c hc j hj e ?_⟩
  cases w : S j with
  | false => rfl
  | true => rw [hS j w] at q; cases q
/-- the slots that a course fits which is given to j take its place -/
theorem AM_add {G : Nat → Int} {S : Nat → Bool} {c j i : Nat} (hV : Vd m fit G) (hc : c < 20) (hj : j < m) (hi : i < m) (hG : G c = (j : Int)) (hf : fit c i = true) (hSj : S j = false) (hSi : S i = true) (h : AM m fit rm G S i) : AM m fit rm G (fun k => S k || decide (k = j)) j := by
  obtain ⟨H, h1, h2, h3, h4, h5⟩ := h
  have hH : H c = (j : Int) := (h5 c hc j hj hG hSj).trans hG
  have hij : i ≠ j := fun e => by rw [e, hSj] at hSi; cases hSi
  refine ⟨fs H c i, fun c2 hc2 => ?_, fun k hk => ?_, ?_, fun c2 => ?_, fun c2 hc2 k hk e q => ?_⟩
  · by_cases e : c2 = c
    · subst e; exact Or.inr ⟨i, hi, fs_at _ _ _, hf⟩
    · rw [fs_ne e]; exact h1 c2 hc2
  · rw [cg_fs, if_pos hc, hH]
    have := h2 k hk
    by_cases e : i = k
    · subst e; rw [if_pos rfl, if_neg (by omega)]; omega
    · rw [if_neg (by omega)]; split <;> omega
  · rw [cg_fs, if_pos hc, hH, if_neg (by omega), if_pos rfl]
    have := h2 j hj
    omega
  · by_cases e : c2 = c
    · subst e
      rw [fs_at, hG]
      constructor <;> intro q <;> omega
    · rw [fs_ne e]; exact h4 c2
  · have q' : S k = false ∧ decide (k = j) = false := by simpa using q
    have e2 : c2 ≠ c := fun z => by
      subst z
      have : k = j := by omega
      rw [this] at q'
      simp at q'
    rw [fs_ne e2]
    exact h5 c2 hc2 k hk e q'.1
theorem cnt_iff {G H : Nat → Int} (h : ∀ c, H c = -1 ↔ G c = -1) (n : Nat) : cnt (fun c => decide (H c ≠ -1)) n = cnt (fun c => decide (G c ≠ -1)) n := cnt_cg n (fun c _ => by
  by_cases e : G c = -1
  · simp [e, (h c).mpr e]
  · have e2 : ¬ H c = -1 := fun z => e ((h c).mp z)
    simp [e, e2])
/-- a slot with such a match is short in a best match -/
theorem AM_yes {G : Nat → Int} {S : Nat → Bool} {k : Nat} (hm : m ≤ 4) (hr : ∀ j, j < m → rm j ≤ 3) (hk : k < m) {v : Int} (hv : IsMax (Rc m fit rm 0 0 20) v) (hc : v = cnt (fun c => decide (G c ≠ -1)) 20) (h : AM m fit rm G S k) : IsMax (Rc m fit (rm1 rm k) 0 0 20) v := by
  obtain ⟨H, h1, h2, h3, h4, h5⟩ := h
  have hr1 : ∀ j, j < m → rm1 rm k j ≤ 3 := fun j hj => Int.le_trans (rm1_le k j hj) (hr j hj)
  have hG : ∀ j, j < 20 → H (0 + j) = -1 ∨ ∃ k, k < m ∧ H (0 + j) = (k : Int) ∧ fit (0 + j) k = true := fun j hj => by rw [Nat.zero_add]; exact h1 j hj
  obtain ⟨g, g1, g2, g3⟩ := Rc_low (fill := 0) hm hr1 (by decide) hG (fun j hj => by
    rw [dg_0]
    have := h2 j hj
    unfold rm1
    by_cases e : j = k
    · subst e; rw [if_pos rfl]; omega
    · rw [if_neg e]; omega) 20 (Nat.le_refl 20)
  refine ⟨fun g' hg' => hv.1 g' (Rc_mono (rm1_le k) 20 hg'), g, g2, ?_⟩
  rw [nf_sK hm (Rc_z hm hr1 (by decide) (fun k _ _ => dg_0 k) 20 g2), hc, ← cnt_iff h4 20]
  have := cg_all (fr := 0) hG 20 (Nat.le_refl 20)
  simp only [Nat.zero_add] at this
  rw [← this]
  exact sK_cg m (fun j hj => by
    show (dg g j : Int) = cg H 0 j 20
    have := g3 j (by omega)
    rw [dg_0] at this
    omega)
/-- a slot outside the closed set of short ones is full in each best match -/
theorem AM_no {G got : Nat → Int} {S F : Nat → Bool} {k : Nat} (hm : m ≤ 4) (hr : ∀ j, j < m → rm j ≤ 3) (hr1 : ∀ j, j < m → 1 ≤ rm j) (hk : k < m) (hV : Vd m fit G) (hC : Cd m G got) (hS0 : ∀ j, j < m → got j < rm j → S j = true) (hle : ∀ j, j < m → got j ≤ rm j)
    (hSc : ∀ c, c < 20 → ∀ j, j < m → G c = (j : Int) → ∀ i, i < m → fit c i = true → S i = true → S j = true)
    (hSF : ∀ j, j < m → S j = true → F j = false) (hfail : ∀ c, c < 20 → G c = -1 → ∀ j, j < m → fit c j = true → F j = true) (hSk : S k = false) :
    ∀ g, Rc m fit (rm1 rm k) 0 0 20 g → (nf g : Int) + 1 ≤ cnt (fun c => decide (G c ≠ -1)) 20 := by
  intro g hg
  have h3 : ∀ j, j < m → rm1 rm k j ≤ 3 := fun j hj => Int.le_trans (rm1_le k j hj) (hr j hj)
  have hG : ∀ j, j < 20 → G (0 + j) = -1 ∨ ∃ k, k < m ∧ G (0 + j) = (k : Int) ∧ fit (0 + j) k = true := fun j hj => by rw [Nat.zero_add]; exact hV j hj
  have a := Rc_up (fr := 0) (fill := 0) hm h3 (by decide) (fun k _ _ => dg_0 k) (fun j hj => by rw [dg_0]; have := hr1 j hj; unfold rm1; split <;> omega) (fun j => !S j) hg
  have b := ot_cg (fr := 0) (F := fun j => !S j) hG (fun j hj k2 hk2 e q i hi hf => by
    rw [Nat.zero_add] at e hf
    cases w : S i with
    | false => rfl
    | true => rw [hSc j hj k2 hk2 e i hi hf w] at q; cases q) (fun j hj e i hi hf => by
    rw [Nat.zero_add] at e hf
    have := hfail j hj e i hi hf
    cases w : S i with
    | false => rfl
    | true => rw [hSF i hi w] at this; cases this) 20 (Nat.le_refl 20)
  have c := cg_all (fr := 0) hG 20 (Nat.le_refl 20)
  have a2 : (nf g : Int) ≤ sK (fun j => if (!S j) = true then rm1 rm k j else (dg 0 j : Int)) m + cnt (fun j => ot fit (fun j => !S j) (0 + j) m) 20 := a
  have b2 : cnt (fun j => ot fit (fun j => !S j) (0 + j) m) 20 ≤ sK (fun j => if (!S j) = true then 0 else cg G 0 j 20) m := b
  have d : sK (fun j => if (!S j) = true then rm1 rm k j else (dg 0 j : Int)) m + sK (fun j => if (!S j) = true then 0 else cg G 0 j 20) m + 1 = sK (fun j => cg G 0 j 20) m := by
    rw [← sK_add]
    have e1 : sK (fun j => cg G 0 j 20) m = sK (fun j => if j = k then cg G 0 j 20 - 1 else cg G 0 j 20) m + 1 := by
      have := sK_one (w := fun j => if j = k then cg G 0 j 20 - 1 else cg G 0 j 20) (v := fun j => cg G 0 j 20) (k0 := k) (x := 1) (by show cg G 0 k 20 = (if k = k then cg G 0 k 20 - 1 else cg G 0 k 20) + 1; rw [if_pos rfl]; omega) (fun j hj => by show cg G 0 j 20 = if j = k then cg G 0 j 20 - 1 else cg G 0 j 20; rw [if_neg hj]) m
      rw [if_pos hk] at this
      exact this
    rw [e1]
    refine congrArg (fun x => x + 1) (sK_cg m (fun j hj => ?_))
    show (if (!S j) = true then rm1 rm k j else (dg 0 j : Int)) + (if (!S j) = true then 0 else cg G 0 j 20) = if j = k then cg G 0 j 20 - 1 else cg G 0 j 20
    cases w : S j with
    | false =>
      have f : got j = rm j := by
        have h1 := hle j hj
        by_cases q : got j < rm j
        · rw [hS0 j hj q] at w; cases w
        · omega
      have f2 := hC j hj
      rw [if_pos (by rfl), if_pos (by rfl)]
      unfold rm1
      split <;> omega
    | true =>
      rw [if_neg (by simp), if_neg (by simp), dg_0, if_neg (fun z => by rw [z, hSk] at w; cases w)]
      omega
  have e2 : cnt (fun c => decide (G c ≠ -1)) 20 = sK (fun k => cg G 0 k 20) m := by
    rw [c]
    exact cnt_cg 20 (fun j _ => by rw [Nat.zero_add])
  rw [e2]
  omega
/-- THE WALK THAT FINDS THE SHORT SLOTS: S holds slots with such matches, and is apart from F -/
def SW (m : Nat) (fit : Nat → Nat → Bool) (rm : Nat → Int) (G : Nat → Int) (F S : Nat → Bool) : Prop :=
  (∀ k, k < m → S k = true → AM m fit rm G S k) ∧ ∀ k, k < m → S k = true → F k = false
theorem SW_0 {G got : Nat → Int} {F S : Nat → Bool} (hV : Vd m fit G) (hC : Cd m G got) (hle : ∀ j, j < m → got j ≤ rm j) (hF : CL m fit rm F G got) (hS : ∀ k, k < m → S k = decide (got k < rm k)) : SW m fit rm G F S := by
  refine ⟨fun k hk q => ?_, fun k hk q => ?_⟩
  · rw [hS k hk] at q
    have q2 := of_decide_eq_true q
    exact ⟨G, hV, fun j hj => by rw [← hC j hj]; exact hle j hj, by rw [← hC k hk]; omega, fun _ => Iff.rfl, fun _ _ _ _ _ _ => rfl⟩
  · rw [hS k hk] at q
    have q2 := of_decide_eq_true q
    cases w : F k with
    | false => rfl
    | true => have := hF.1 k hk w; omega
theorem SW_add {G got : Nat → Int} {F S : Nat → Bool} {c j i : Nat} (hV : Vd m fit G) (hF : CL m fit rm F G got) (h : SW m fit rm G F S) (hc : c < 20) (hj : j < m) (hi : i < m) (hG : G c = (j : Int)) (hf : fit c i = true) (hSi : S i = true) : SW m fit rm G F (fun k => S k || decide (k = j)) := by
  have hm : ∀ k, S k = true → (S k || decide (k = j)) = true := fun k q => by rw [q]; rfl
  refine ⟨fun k hk q => ?_, fun k hk q => ?_⟩
  · cases w : S k with
    | true => exact AM_mono (S := S) (S2 := fun k => S k || decide (k = j)) hm (h.1 k hk w)
    | false =>
      have e : k = j := by simpa [w] using q
      subst e
      exact AM_add hV hc hk hi hG hf w hSi (h.1 i hi hSi)
  · cases w : S k with
    | true => exact h.2 k hk w
    | false =>
      have e : k = j := by simpa [w] using q
      subst e
      cases w2 : F k with
      | false => rfl
      | true =>
        have := hF.2 c hc k hk hG w2 i hi hf
        rw [h.2 i hi hSi] at this
        cases this
end SHT
/-- the n-th of the numbers with p -/
def itN (p : Nat → Bool) (k : Nat) : Nat → Nat
  | 0 => 0
  | n + 1 => if p n = true ∧ cnt p n = (k : Int) then n else itN p k n
theorem itN_s {p : Nat → Bool} {k n : Nat} (h : (k : Int) < cnt p n) : itN p k (n + 1) = itN p k n := by
  rw [itN, if_neg (by omega)]
theorem itN_p {p : Nat → Bool} {k : Nat} : ∀ n : Nat, (k : Int) < cnt p n → itN p k n < n ∧ p (itN p k n) = true ∧ cnt p (itN p k n) = (k : Int)
  | 0, h => absurd h (by show ¬ (k : Int) < 0; omega)
  | n + 1, h => by
    rw [cnt_s] at h
    rw [itN]
    by_cases q : p n = true ∧ cnt p n = (k : Int)
    · rw [if_pos q]; exact ⟨Nat.lt_succ_self n, q.1, q.2⟩
    · rw [if_neg q]
      have : (k : Int) < cnt p n := by
        by_cases q2 : p n = true
        · rw [if_pos q2] at h
          have : cnt p n ≠ (k : Int) := fun e => q ⟨q2, e⟩
          omega
        · rw [if_neg q2] at h; omega
      obtain ⟨a, b⟩ := itN_p n this
      exact ⟨by omega, b⟩
theorem cnt_mono (p : Nat → Bool) : ∀ (a b : Nat), cnt p a ≤ cnt p (a + b)
  | a, 0 => Int.le_refl _
  | a, b + 1 => by
    have := cnt_mono p a b
    rw [← Nat.add_assoc, cnt_s]
    split <;> omega
theorem itN_lt {p : Nat → Bool} {k k2 n : Nat} (h : k < k2) (h2 : (k2 : Int) < cnt p n) : itN p k n < itN p k2 n := by
  obtain ⟨a1, a2, a3⟩ := itN_p (p := p) (k := k) n (by omega)
  obtain ⟨b1, b2, b3⟩ := itN_p (k := k2) n h2
  by_cases q : itN p k n < itN p k2 n
  · exact q
  · have := cnt_mono p (itN p k2 n) (itN p k n - itN p k2 n)
    rw [show itN p k2 n + (itN p k n - itN p k2 n) = itN p k n by omega] at this
    omega
/-- the bits of the rules of slots with p; as a sum; as the class joins them -/
def lkV (it : Nat → Nat) (p : Nat → Bool) : Nat → Nat
  | 0 => 0
  | k + 1 => lkV it p k + (if p k = true then 1 <<< it k else 0)
theorem lkV_cg {it : Nat → Nat} {p q : Nat → Bool} : ∀ n, (∀ k, k < n → p k = q k) → lkV it p n = lkV it q n
  | 0, _ => rfl
  | n + 1, h => by rw [lkV, lkV, lkV_cg n (fun k hk => h k (by omega)), h n (Nat.lt_succ_self n)]
theorem lkV_lt {it : Nat → Nat} {p : Nat → Bool} : ∀ (n b : Nat), (∀ k, k < n → it k < b) → (∀ k k2, k < k2 → k2 < n → it k < it k2) → lkV it p n < 1 <<< b
  | 0, b, _, _ => by show 0 < 1 <<< b; rw [Nat.one_shiftLeft]; exact Nat.two_pow_pos b
  | n + 1, b, h1, h2 => by
    have a := lkV_lt (p := p) n (it n) (fun k hk => h2 k n hk (Nat.lt_succ_self n)) (fun k k2 q q2 => h2 k k2 q (by omega))
    have c := h1 n (Nat.lt_succ_self n)
    have d : 1 <<< (it n + 1) ≤ 1 <<< b := by rw [Nat.one_shiftLeft, Nat.one_shiftLeft]; exact Nat.pow_le_pow_right (by decide) c
    have e : 1 <<< (it n + 1) = 1 <<< it n + 1 <<< it n := by rw [Nat.one_shiftLeft, Nat.one_shiftLeft, Nat.pow_succ]; omega
    rw [lkV]
    split <;> omega
theorem lkV_or {it : Nat → Nat} {p : Nat → Bool} {n : Nat} (h2 : ∀ k k2, k < k2 → k2 < n + 1 → it k < it k2) : lkV it p n ||| 1 <<< it n = lkV it p n + 1 <<< it n := by
  have a := lkV_lt (p := p) n (it n) (fun k hk => h2 k n hk (Nat.lt_succ_self n)) (fun k k2 q q2 => h2 k k2 q (by omega))
  rw [Nat.one_shiftLeft] at a ⊢
  have := Nat.two_pow_add_eq_or_of_lt a 1
  rw [Nat.mul_one] at this
  rw [Nat.or_comm, ← this, Nat.add_comm]
section FBR
variable {m : Nat} {fit : Nat → Nat → Bool} {nd : Nat → Int} {n : Nat} {v : Int} {c fill : Nat}
end FBR
set_option maxRecDepth 100000 in
theorem lt_all : ∀ g : Fin 256, ∀ m : Fin 5, (∀ k : Fin 4, m.val ≤ k.val → dg g.val k.val = 0) → g.val < 1 <<< (2 * m.val) := by decide +kernel
/-- a filling of the first m slots is a small number -/
theorem dg_small {g m : Nat} (hg : g < 256) (hm : m ≤ 4) (h : ∀ k, m ≤ k → k < 4 → dg g k = 0) : g < 1 <<< (2 * m) := lt_all ⟨g, hg⟩ ⟨m, by omega⟩ (fun k q => h k.val q k.isLt)
