/-! AUDITS, pure: fillings, matches, certificates -/
/-- the digit of a filling; all digits together -/
def dg (f k : Nat) : Nat := (f >>> (2 * k)) &&& 3
def nf (f : Nat) : Nat := dg f 0 + dg f 1 + dg f 2 + dg f 3
/-- one more at k -/
def up1 (f k : Nat) : Nat := f + 1 <<< (2 * k)
set_option maxRecDepth 100000 in
theorem dg_all : ∀ f : Fin 256, ∀ k : Fin 4, dg f.val k.val < 3 → up1 f.val k.val < 256 ∧ ∀ j : Fin 4, dg (up1 f.val k.val) j.val = dg f.val j.val + (if j.val = k.val then 1 else 0) := by decide +kernel
theorem dg_up {f k : Nat} (hf : f < 256) (hk : k < 4) (h : dg f k < 3) : up1 f k < 256 ∧ ∀ j, j < 4 → dg (up1 f k) j = dg f j + (if j = k then 1 else 0) := by
  obtain ⟨a, b⟩ := dg_all ⟨f, hf⟩ ⟨k, hk⟩ h
  exact ⟨a, fun j hj => b ⟨j, hj⟩⟩
theorem dg_le (f k : Nat) : dg f k ≤ 3 := Nat.and_le_right
theorem dg_0 (k : Nat) : dg 0 k = 0 := by unfold dg; simp
theorem up1_gt (f k : Nat) : f < up1 f k := by
  unfold up1
  have : 0 < 1 <<< (2 * k) := by rw [Nat.one_shiftLeft]; exact Nat.two_pow_pos _
  omega
/-- sums over the slots -/
def sK (w : Nat → Int) : Nat → Int
  | 0 => 0
  | n + 1 => sK w n + w n
theorem sK_cg {w v : Nat → Int} : ∀ n, (∀ k, k < n → w k = v k) → sK w n = sK v n
  | 0, _ => rfl
  | n + 1, h => by rw [sK, sK, sK_cg n (fun k hk => h k (by omega)), h n (by omega)]
theorem sK_le {w v : Nat → Int} : ∀ n, (∀ k, k < n → w k ≤ v k) → sK w n ≤ sK v n
  | 0, _ => Int.le_refl 0
  | n + 1, h => by
    have a := sK_le n (fun k hk => h k (by omega))
    have b := h n (by omega)
    rw [sK, sK]
    omega
theorem sK_add (w v : Nat → Int) : ∀ n, sK (fun k => w k + v k) n = sK w n + sK v n
  | 0 => rfl
  | n + 1 => by rw [sK, sK, sK, sK_add w v n]; omega
theorem sK_one {w v : Nat → Int} {k0 : Nat} {x : Int} (h1 : v k0 = w k0 + x) (h : ∀ k, k ≠ k0 → v k = w k) : ∀ n, sK v n = sK w n + (if k0 < n then x else 0)
  | 0 => by rw [if_neg (Nat.not_lt_zero k0)]; rfl
  | n + 1 => by
    rw [sK, sK, sK_one h1 h n]
    by_cases e : n = k0
    · subst e; rw [if_neg (Nat.lt_irrefl n), if_pos (Nat.lt_succ_self n), h1]; omega
    · rw [h n e]
      by_cases q : k0 < n
      · rw [if_pos q, if_pos (show k0 < n + 1 by omega)]; omega
      · rw [if_neg q, if_neg (show ¬ k0 < n + 1 by omega)]; omega
theorem sK_z {w : Nat → Int} : ∀ n, (∀ k, k < n → w k = 0) → sK w n = 0
  | 0, _ => rfl
  | n + 1, h => by rw [sK, sK_z n (fun k hk => h k (by omega)), h n (by omega)]; rfl
theorem nf_sK {f m : Nat} (hm : m ≤ 4) (hz : ∀ k, m ≤ k → k < 4 → dg f k = 0) : (nf f : Int) = sK (fun k => (dg f k : Int)) m := by
  have e : (nf f : Int) = sK (fun k => (dg f k : Int)) 4 := by
    unfold nf
    simp only [sK]
    omega
  rw [e]
  have : ∀ j, m + j ≤ 4 → sK (fun k => (dg f k : Int)) (m + j) = sK (fun k => (dg f k : Int)) m := by
    intro j
    induction j with
    | zero => intro _; rfl
    | succ j ih =>
      intro hj
      rw [← Nat.add_assoc, sK, ih (by omega)]
      have := hz (m + j) (by omega) (by omega)
      omega
  have q := this (4 - m) (by omega)
  rw [show m + (4 - m) = 4 by omega] at q
  exact q
/-- what can be reached, course by course -/
def Rc (m : Nat) (fit : Nat → Nat → Bool) (rm : Nat → Int) (fr fill : Nat) : Nat → Nat → Prop
  | 0, g => g = fill
  | i + 1, g => Rc m fit rm fr fill i g ∨ ∃ f k, k < m ∧ g = up1 f k ∧ Rc m fit rm fr fill i f ∧ fit (fr + i) k = true ∧ (dg f k : Int) < rm k
section RCS
variable {m : Nat} {fit : Nat → Nat → Bool} {rm : Nat → Int} {fr fill : Nat}
theorem Rc_lt (hm : m ≤ 4) (hr : ∀ k, k < m → rm k ≤ 3) (hf : fill < 256) : ∀ (i : Nat) {g : Nat}, Rc m fit rm fr fill i g → g < 256
  | 0, g, h => by have e : g = fill := h; omega
  | i + 1, g, h => by
    rcases h with h | ⟨f, k, hk, e, h1, h2, h3⟩
    · exact Rc_lt hm hr hf i h
    · have a := Rc_lt hm hr hf i h1
      have b := hr k hk
      rw [e]
      exact (dg_up a (by omega) (by omega)).1
theorem Rc_z (hm : m ≤ 4) (hr : ∀ k, k < m → rm k ≤ 3) (hf : fill < 256) (hz : ∀ k, m ≤ k → k < 4 → dg fill k = 0) : ∀ (i : Nat) {g : Nat}, Rc m fit rm fr fill i g → ∀ k, m ≤ k → k < 4 → dg g k = 0
  | 0, g, h => by have e : g = fill := h; rw [e]; exact hz
  | i + 1, g, h => by
    rcases h with h | ⟨f, k, hk, e, h1, h2, h3⟩
    · exact Rc_z hm hr hf hz i h
    · intro j j1 j2
      have a := Rc_lt hm hr hf i h1
      have b := hr k hk
      rw [e, (dg_up a (show k < 4 by omega) (by omega)).2 j j2, Rc_z hm hr hf hz i h1 j j1 j2, if_neg (by omega)]
theorem Rc_cap (hm : m ≤ 4) (hr : ∀ k, k < m → rm k ≤ 3) (hf : fill < 256) (hc : ∀ k, k < m → (dg fill k : Int) ≤ rm k) : ∀ (i : Nat) {g : Nat}, Rc m fit rm fr fill i g → ∀ k, k < m → (dg g k : Int) ≤ rm k
  | 0, g, h => by have e : g = fill := h; rw [e]; exact hc
  | i + 1, g, h => by
    rcases h with h | ⟨f, k, hk, e, h1, h2, h3⟩
    · exact Rc_cap hm hr hf hc i h
    · intro j j1
      have a := Rc_lt hm hr hf i h1
      have b := hr k hk
      have c := Rc_cap hm hr hf hc i h1 j j1
      rw [e, (dg_up a (show k < 4 by omega) (by omega)).2 j (by omega)]
      by_cases q : j = k
      · subst q; rw [if_pos rfl]; omega
      · rw [if_neg q]; exact c
/-- a course that fits a slot outside F -/
def ot (fit : Nat → Nat → Bool) (F : Nat → Bool) (c : Nat) : Nat → Bool
  | 0 => false
  | n + 1 => ot fit F c n || (fit c n && !F n)
theorem ot_of {F : Nat → Bool} {c k : Nat} (h1 : fit c k = true) (h2 : F k = false) : ∀ n, k < n → ot fit F c n = true
  | 0, h => absurd h (Nat.not_lt_zero k)
  | n + 1, h => by
    rw [ot]
    by_cases e : k = n
    · subst e; rw [h1, h2]; simp
    · rw [ot_of h1 h2 n (by omega)]; rfl
theorem ot_ex {F : Nat → Bool} {c : Nat} : ∀ n, ot fit F c n = true → ∃ k, k < n ∧ fit c k = true ∧ F k = false
  | 0, h => by cases h
  | n + 1, h => by
    rw [ot] at h
    rcases (Bool.or_eq_true _ _).mp h with h | h
    · obtain ⟨k, a, b⟩ := ot_ex n h
      exact ⟨k, by omega, b⟩
    · have q := (Bool.and_eq_true _ _).mp h
      exact ⟨n, Nat.lt_succ_self n, q.1, by simpa using q.2⟩
/-- outside F no more than there are courses that fit there -/
theorem Rc_out (hm : m ≤ 4) (hr : ∀ k, k < m → rm k ≤ 3) (hf : fill < 256) (F : Nat → Bool) : ∀ (i : Nat) {g : Nat}, Rc m fit rm fr fill i g → sK (fun k => if F k = true then 0 else (dg g k : Int)) m ≤ sK (fun k => if F k = true then 0 else (dg fill k : Int)) m + cnt (fun j => ot fit F (fr + j) m) i
  | 0, g, h => by have e : g = fill := h; rw [e]; show _ ≤ _ + 0; omega
  | i + 1, g, h => by
    rw [cnt_s]
    rcases h with h | ⟨f, k, hk, e, h1, h2, h3⟩
    · have a := Rc_out hm hr hf F i h
      split <;> omega
    · have a := Rc_out hm hr hf F i h1
      have a2 := Rc_lt hm hr hf i h1
      have b := hr k hk
      have u := (dg_up a2 (show k < 4 by omega) (by omega)).2
      by_cases q : F k = true
      · have e2 : sK (fun j => if F j = true then 0 else (dg g j : Int)) m = sK (fun j => if F j = true then 0 else (dg f j : Int)) m := sK_cg m (fun j hj => by
          show (if F j = true then (0 : Int) else (dg g j : Int)) = if F j = true then 0 else (dg f j : Int)
          by_cases q2 : F j = true
          · rw [if_pos q2, if_pos q2]
          · rw [if_neg q2, if_neg q2, e, u j (by omega), if_neg (show ¬ j = k from fun z => q2 (z ▸ q)), Nat.add_zero])
        rw [e2]
        split <;> omega
      · have q' : F k = false := Bool.eq_false_iff.mpr q
        rw [if_pos (ot_of h2 q' m hk)]
        have e2 : sK (fun j => if F j = true then 0 else (dg g j : Int)) m = sK (fun j => if F j = true then 0 else (dg f j : Int)) m + (if k < m then 1 else 0) := by
          have e3 : sK (fun j => if F j = true then 0 else (dg g j : Int)) m = sK (fun j => if j = k then (if F j = true then 0 else (dg f j : Int)) + 1 else (if F j = true then 0 else (dg f j : Int))) m := sK_cg m (fun j hj => by
            show (if F j = true then (0 : Int) else (dg g j : Int)) = if j = k then (if F j = true then 0 else (dg f j : Int)) + 1 else (if F j = true then 0 else (dg f j : Int))
            rw [e, u j (by omega)]
            by_cases q2 : j = k
            · subst q2; rw [if_neg q, if_pos rfl, if_pos rfl, if_neg q]; omega
            · rw [if_neg q2, if_neg q2, Nat.add_zero])
          rw [e3]
          exact sK_one (w := fun j => if F j = true then 0 else (dg f j : Int)) (k0 := k) (x := 1) (by show (if k = k then _ else _) = _; rw [if_pos rfl]) (fun j hj => by show (if j = k then _ else _) = _; rw [if_neg hj]) m
        rw [e2, if_pos hk]
        omega
theorem Rc_mono {rm2 : Nat → Int} (h : ∀ k, k < m → rm k ≤ rm2 k) : ∀ (i : Nat) {g : Nat}, Rc m fit rm fr fill i g → Rc m fit rm2 fr fill i g
  | 0, _, q => q
  | i + 1, g, q => by
    rcases q with q | ⟨f, k, hk, e, h1, h2, h3⟩
    · exact Or.inl (Rc_mono h i q)
    · exact Or.inr ⟨f, k, hk, e, Rc_mono h i h1, h2, by have := h k hk; omega⟩
/-- how many of the first i courses from fr on a match gives to k -/
def cg (G : Nat → Int) (fr k : Nat) (i : Nat) : Int := cnt (fun j => decide (G (fr + j) = (k : Int))) i
theorem cg_s (G : Nat → Int) (fr k i : Nat) : cg G fr k (i + 1) = cg G fr k i + (if G (fr + i) = (k : Int) then 1 else 0) := by
  unfold cg
  rw [cnt_s]
  by_cases e : G (fr + i) = (k : Int)
  · simp [e]
  · simp [e]
theorem cg_0 (G : Nat → Int) (fr k i : Nat) : 0 ≤ cg G fr k i := (cnt_0 _ i).1
theorem cg_mono (G : Nat → Int) (fr k : Nat) : ∀ (i j : Nat), cg G fr k i ≤ cg G fr k (i + j)
  | i, 0 => Int.le_refl _
  | i, j + 1 => by
    have := cg_mono G fr k i j
    rw [← Nat.add_assoc, cg_s]
    split <;> omega
/-- a match reaches its filling -/
theorem Rc_low {G : Nat → Int} {n : Nat} (hm : m ≤ 4) (hr : ∀ k, k < m → rm k ≤ 3) (hf : fill < 256) (hG : ∀ j, j < n → G (fr + j) = -1 ∨ ∃ k, k < m ∧ G (fr + j) = (k : Int) ∧ fit (fr + j) k = true) (hc : ∀ k, k < m → (dg fill k : Int) + cg G fr k n ≤ rm k) : ∀ i, i ≤ n → ∃ g, g < 256 ∧ Rc m fit rm fr fill i g ∧ ∀ k, k < 4 → (dg g k : Int) = dg fill k + cg G fr k i
  | 0, _ => ⟨fill, hf, rfl, fun k _ => by show _ = _ + (0 : Int); omega⟩
  | i + 1, hi => by
    obtain ⟨g, g1, g2, g3⟩ := Rc_low hm hr hf hG hc i (by omega)
    rcases hG i (by omega) with e | ⟨k, hk, e, h2⟩
    · refine ⟨g, g1, Or.inl g2, fun k hk => ?_⟩
      rw [cg_s, if_neg (by rw [e]; omega), g3 k hk]
      omega
    · have a := g3 k (by omega)
      have b := hc k hk
      have b2 := hr k hk
      have c1 := cg_mono G fr k (i + 1) (n - (i + 1))
      rw [show i + 1 + (n - (i + 1)) = n by omega, cg_s, if_pos e] at c1
      have u := dg_up g1 (show k < 4 by omega) (by omega)
      refine ⟨up1 g k, u.1, Or.inr ⟨g, k, hk, rfl, g2, h2, by omega⟩, fun j hj => ?_⟩
      rw [u.2 j hj, cg_s]
      have := g3 j hj
      by_cases q : j = k
      · subst q; rw [if_pos rfl, if_pos e]; omega
      · rw [if_neg q, if_neg (by rw [e]; omega)]; omega
theorem cg_all {G : Nat → Int} {n : Nat} (hG : ∀ j, j < n → G (fr + j) = -1 ∨ ∃ k, k < m ∧ G (fr + j) = (k : Int) ∧ fit (fr + j) k = true) : ∀ i, i ≤ n → sK (fun k => cg G fr k i) m = cnt (fun j => decide (G (fr + j) ≠ -1)) i
  | 0, _ => sK_z m (fun _ _ => rfl)
  | i + 1, hi => by
    rw [cnt_s, ← cg_all hG i (by omega)]
    rcases hG i (by omega) with e | ⟨k2, hk2, e, -⟩
    · rw [if_neg (by simp [e])]
      rw [Int.add_zero]
      exact sK_cg m (fun k _ => by show cg G fr k (i + 1) = cg G fr k i; rw [cg_s, if_neg (by rw [e]; omega)]; omega)
    · rw [if_pos (by simp; omega), sK_one (w := fun k => cg G fr k i) (k0 := k2) (x := 1) (by show cg G fr k2 (i + 1) = _; rw [cg_s, if_pos e]) (fun k hk => by show cg G fr k (i + 1) = _; rw [cg_s, if_neg (by rw [e]; omega)]; omega) m, if_pos hk2]
/-- v is the greatest sum of what is reached -/
def IsMax (R : Nat → Prop) (v : Int) : Prop := (∀ g, R g → (nf g : Int) ≤ v) ∧ ∃ g, R g ∧ (nf g : Int) = v
theorem IsMax_eq {R : Nat → Prop} {v w : Int} (h1 : IsMax R v) (h2 : IsMax R w) : v = w := by
  obtain ⟨a, g, b, c⟩ := h1
  obtain ⟨a', g', b', c'⟩ := h2
  have := a g' b'
  have := a' g b
  omega
noncomputable def mx (R : Nat → Prop) : Int := Classical.epsilon (fun v => IsMax R v)
theorem mx_eq {R : Nat → Prop} {v : Int} (h : IsMax R v) : mx R = v := IsMax_eq (Classical.epsilon_spec (p := fun v => IsMax R v) ⟨v, h⟩) h
theorem mx_cg {R S : Nat → Prop} (h : ∀ g, R g ↔ S g) : mx R = mx S := by rw [show R = S from funext fun g => propext (h g)]
/-- the greatest of the first n that are reached: the loop -/
theorem mx_ex {R : Nat → Prop} {g0 : Nat} (h0 : R g0) (hl : ∀ g, R g → g < 256) : IsMax R (mx R) := by
  have key : ∀ n : Nat, (∀ g, R g → nf g ≤ n) → ∃ v, IsMax R v := by
    intro n
    induction n with
    | zero => intro h; exact ⟨0, fun g hg => by have := h g hg; omega, g0, h0, by have := h g0 h0; omega⟩
    | succ n ih =>
      intro h
      by_cases q : ∃ g, R g ∧ nf g = n + 1
      · obtain ⟨g, a, b⟩ := q
        exact ⟨((n + 1 : Nat) : Int), fun g hg => by have := h g hg; omega, g, a, by rw [b]⟩
      · exact ih (fun g hg => by
          have := h g hg
          by_cases e : nf g = n + 1
          · exact absurd ⟨g, hg, e⟩ q
          · omega)
  obtain ⟨v, hv⟩ := key 12 (fun g _ => by
    have a := dg_le g 0
    have b := dg_le g 1
    have c := dg_le g 2
    have d := dg_le g 3
    unfold nf
    omega)
  rw [mx_eq hv]
  exact hv
/-- no match gives more than F's room and the courses that fit outside F -/
theorem Rc_up {n : Nat} (hm : m ≤ 4) (hr : ∀ k, k < m → rm k ≤ 3) (hf : fill < 256) (hz : ∀ k, m ≤ k → k < 4 → dg fill k = 0) (hc : ∀ k, k < m → (dg fill k : Int) ≤ rm k) (F : Nat → Bool) {g : Nat} (hg : Rc m fit rm fr fill n g) : (nf g : Int) ≤ sK (fun k => if F k = true then rm k else (dg fill k : Int)) m + cnt (fun j => ot fit F (fr + j) m) n := by
  rw [nf_sK hm (Rc_z hm hr hf hz n hg)]
  have a := Rc_out hm hr hf F n hg
  have b := Rc_cap hm hr hf hc n hg
  have e1 : sK (fun k => (dg g k : Int)) m = sK (fun k => if F k = true then (dg g k : Int) else 0) m + sK (fun k => if F k = true then 0 else (dg g k : Int)) m := by
    rw [← sK_add]
    exact sK_cg m (fun k _ => by show _ = (if F k = true then (dg g k : Int) else 0) + (if F k = true then 0 else (dg g k : Int)); split <;> omega)
  have e2 : sK (fun k => if F k = true then rm k else (dg fill k : Int)) m = sK (fun k => if F k = true then rm k else 0) m + sK (fun k => if F k = true then 0 else (dg fill k : Int)) m := by
    rw [← sK_add]
    exact sK_cg m (fun k _ => by show (if F k = true then rm k else (dg fill k : Int)) = (if F k = true then rm k else 0) + (if F k = true then 0 else (dg fill k : Int)); split <;> omega)
  have c : sK (fun k => if F k = true then (dg g k : Int) else 0) m ≤ sK (fun k => if F k = true then rm k else 0) m := sK_le m (fun k hk => by
    show (if F k = true then (dg g k : Int) else 0) ≤ if F k = true then rm k else 0
    have := b k hk
    split <;> omega)
  rw [e1, e2]
  omega
/-- the courses that fit outside F are given outside F -/
theorem ot_cg {G : Nat → Int} {n : Nat} {F : Nat → Bool} (hG : ∀ j, j < n → G (fr + j) = -1 ∨ ∃ k, k < m ∧ G (fr + j) = (k : Int) ∧ fit (fr + j) k = true)
    (hclo : ∀ j, j < n → ∀ k, k < m → G (fr + j) = (k : Int) → F k = true → ∀ k2, k2 < m → fit (fr + j) k2 = true → F k2 = true)
    (hfail : ∀ j, j < n → G (fr + j) = -1 → ∀ k2, k2 < m → fit (fr + j) k2 = true → F k2 = true) : ∀ i, i ≤ n → cnt (fun j => ot fit F (fr + j) m) i ≤ sK (fun k => if F k = true then 0 else cg G fr k i) m
  | 0, _ => by rw [sK_z m (fun k _ => by show (if F k = true then (0 : Int) else cg G fr k 0) = 0; split; rfl; rfl)]; exact Int.le_refl 0
  | i + 1, hi => by
    have ih := ot_cg hG hclo hfail i (by omega)
    rw [cnt_s]
    by_cases q : ot fit F (fr + i) m = true
    · rw [if_pos q]
      obtain ⟨k, hk, h1, h2⟩ := ot_ex m q
      rcases hG i (by omega) with e | ⟨k2, hk2, e, h3⟩
      · have := hfail i (by omega) e k hk h1
        rw [h2] at this; cases this
      · have f2 : F k2 = false := by
          cases w : F k2 with
          | false => rfl
          | true =>
            have := hclo i (by omega) k2 hk2 e w k hk h1
            rw [h2] at this; cases this
        rw [sK_one (w := fun k => if F k = true then 0 else cg G fr k i) (k0 := k2) (x := 1) (by show (if F k2 = true then (0 : Int) else cg G fr k2 (i + 1)) = (if F k2 = true then 0 else cg G fr k2 i) + 1; rw [f2, if_neg (by decide), if_neg (by decide), cg_s, if_pos e]) (fun k hk => by show (if F k = true then (0 : Int) else cg G fr k (i + 1)) = if F k = true then 0 else cg G fr k i; rw [show cg G fr k (i + 1) = cg G fr k i by rw [cg_s, if_neg (by rw [e]; omega), Int.add_zero]]) m, if_pos hk2]
        omega
    · rw [if_neg q]
      have : sK (fun k => if F k = true then 0 else cg G fr k i) m ≤ sK (fun k => if F k = true then 0 else cg G fr k (i + 1)) m := sK_le m (fun k _ => by
        show (if F k = true then (0 : Int) else cg G fr k i) ≤ if F k = true then 0 else cg G fr k (i + 1)
        have := cg_mono G fr k i 1
        split <;> omega)
      omega
/-- THE MATCH IS A BEST ONE: valid, within the room, and a set F of full slots that holds all that fits what is left -/
theorem match_max {G : Nat → Int} {n : Nat} {F : Nat → Bool} (hm : m ≤ 4) (hr : ∀ k, k < m → rm k ≤ 3) (hf : fill < 256) (hz : ∀ k, m ≤ k → k < 4 → dg fill k = 0)
    (hG : ∀ j, j < n → G (fr + j) = -1 ∨ ∃ k, k < m ∧ G (fr + j) = (k : Int) ∧ fit (fr + j) k = true)
    (hc : ∀ k, k < m → (dg fill k : Int) + cg G fr k n ≤ rm k)
    (hfull : ∀ k, k < m → F k = true → (dg fill k : Int) + cg G fr k n = rm k)
    (hclo : ∀ j, j < n → ∀ k, k < m → G (fr + j) = (k : Int) → F k = true → ∀ k2, k2 < m → fit (fr + j) k2 = true → F k2 = true)
    (hfail : ∀ j, j < n → G (fr + j) = -1 → ∀ k2, k2 < m → fit (fr + j) k2 = true → F k2 = true) : IsMax (Rc m fit rm fr fill n) (nf fill + cnt (fun j => decide (G (fr + j) ≠ -1)) n) := by
  have e0 : ((nf fill : Int) + cnt (fun j => decide (G (fr + j) ≠ -1)) n) = sK (fun k => (dg fill k : Int) + cg G fr k n) m := by
    rw [nf_sK hm hz, ← cg_all hG n (Nat.le_refl n), ← sK_add]
  refine ⟨fun g hg => ?_, ?_⟩
  · have a := Rc_up hm hr hf hz (fun k hk => by have := hc k hk; have := cg_0 G fr k n; omega) F hg
    have b := ot_cg hG hclo hfail n (Nat.le_refl n)
    rw [e0]
    have c : sK (fun k => if F k = true then rm k else (dg fill k : Int)) m + sK (fun k => if F k = true then 0 else cg G fr k n) m = sK (fun k => (dg fill k : Int) + cg G fr k n) m := by
      rw [← sK_add]
      exact sK_cg m (fun k hk => by
        show (if F k = true then rm k else (dg fill k : Int)) + (if F k = true then 0 else cg G fr k n) = (dg fill k : Int) + cg G fr k n
        by_cases q : F k = true
        · rw [if_pos q, if_pos q, hfull k hk q]; omega
        · rw [if_neg q, if_neg q])
    omega
  · obtain ⟨g, -, g2, g3⟩ := Rc_low hm hr hf hG hc n (Nat.le_refl n)
    refine ⟨g, g2, ?_⟩
    rw [e0, nf_sK hm (Rc_z hm hr hf hz n g2)]
    exact sK_cg m (fun k hk => g3 k (by omega))
end RCS
