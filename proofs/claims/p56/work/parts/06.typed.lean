/-! THE TYPED MEMORY: numbers by kind, index, place; the references are the shape. -/
def J (z : Int) : Int32 := Int32.ofInt z
abbrev R31 (z : Int) : Prop := -2147483648 ≤ z ∧ z < 2147483648
theorem J_add (a b : Int) : J a + J b = J (a + b) := (Int32.ofInt_add a b).symm
theorem J_sub (a b : Int) : J a - J b = J (a - b) := (Int32.ofInt_sub a b).symm
theorem J_mul (a b : Int) : J a * J b = J (a * b) := (Int32.ofInt_mul a b).symm
theorem J_toInt {a : Int} (h : R31 a) : (J a).toInt = a := Int32.toInt_ofInt_of_le (by have := h.1; omega) (by have := h.2; omega)
theorem J_lt {a b : Int} (ha : R31 a) (hb : R31 b) : J a < J b ↔ a < b := by rw [Int32.lt_iff_toInt_lt, J_toInt ha, J_toInt hb]
theorem J_le {a b : Int} (ha : R31 a) (hb : R31 b) : J a ≤ J b ↔ a ≤ b := by rw [Int32.le_iff_toInt_le, J_toInt ha, J_toInt hb]
theorem J_eq {a b : Int} (ha : R31 a) (hb : R31 b) : J a = J b ↔ a = b := by rw [← Int32.toInt_inj, J_toInt ha, J_toInt hb]
theorem R31_0 : R31 0 := ⟨by omega, by omega⟩
theorem J_0 : J 0 = 0 := by decide
theorem J_lt0 {a : Int} (ha : R31 a) : J a < 0 ↔ a < 0 := by rw [← J_0]; exact J_lt ha R31_0
theorem J_0lt {a : Int} (ha : R31 a) : 0 < J a ↔ 0 < a := by rw [← J_0]; exact J_lt R31_0 ha
theorem J_le0 {a : Int} (ha : R31 a) : J a ≤ 0 ↔ a ≤ 0 := by rw [← J_0]; exact J_le ha R31_0
theorem J_0le {a : Int} (ha : R31 a) : 0 ≤ J a ↔ 0 ≤ a := by rw [← J_0]; exact J_le R31_0 ha
theorem J_eq0 {a : Int} (ha : R31 a) : J a = 0 ↔ a = 0 := by rw [← J_0]; exact J_eq ha R31_0
theorem J_of (x : Int32) : J x.toInt = x := Int32.ofInt_toInt x
theorem R31_of (x : Int32) : R31 x.toInt := ⟨by have := Int32.le_toInt x; omega, by have := Int32.toInt_lt x; omega⟩
theorem J_nI (n : Nat) : nI n = J (n : Int) := by
  apply Int32.toBitVec_inj.mp
  show BitVec.ofNat 32 n = BitVec.ofInt 32 (n : Int)
  exact (BitVec.ofInt_natCast ..).symm
theorem J_clamp {a : Int} (h : R31 a) : (J a).toNatClampNeg = a.toNat := by
  show (J a).toInt.toNat = _
  rw [J_toInt h]
theorem J_clampN {j : Nat} (h : j < 2147483648) : (J (j : Int)).toNatClampNeg = j := by
  rw [J_clamp ⟨by omega, by omega⟩]
  exact Int.toNat_natCast j
theorem J_in {j n : Nat} (h : j < n) (hn : n < 2147483648) : vp_in (J (j : Int)) n := by
  refine fun q => ?_
  rw [J_lt0 ⟨by omega, by omega⟩, J_clampN (by omega)] at q
  omega
def bi (b : Bool) : Int := if b = true then 1 else 0
theorem bi_t : bi true = 1 := rfl
theorem bi_f : bi false = 0 := rfl
theorem bi_01 (b : Bool) : bi b = 0 ∨ bi b = 1 := by cases b <;> simp [bi]
theorem bi_R (b : Bool) : R31 (bi b) := by cases b <;> exact ⟨by decide, by decide⟩
abbrev XM : Type := Nat → Nat → Nat → Int
/-- one place new -/
def xs (X : XM) (k i j : Nat) (v : Int) : XM := fun k' i' => if k' = k ∧ i' = i then (fun j' => if j' = j then v else X k i j') else X k' i'
theorem xs_ne {X : XM} {k i j : Nat} {v : Int} {k' i' : Nat} (h : ¬ (k' = k ∧ i' = i)) : xs X k i j v k' i' = X k' i' := if_neg h
theorem xs_nk {X : XM} {k i j : Nat} {v : Int} {k' : Nat} (h : k' ≠ k) : xs X k i j v k' = X k' := funext fun i' => if_neg (fun z => h z.1)
theorem xs_at (X : XM) (k i j : Nat) (v : Int) (j' : Nat) : xs X k i j v k i j' = if j' = j then v else X k i j' := by
  show (if k = k ∧ i = i then (fun j' => if j' = j then v else X k i j') else X k i) j' = _
  rw [if_pos ⟨rfl, rfl⟩]
theorem xs_fn (X : XM) (k i j : Nat) (v : Int) : xs X k i j v k i = fun j' => if j' = j then v else X k i j' := if_pos ⟨rfl, rfl⟩
theorem xs_all (X : XM) (k i j : Nat) (v : Int) (k' i' j' : Nat) : xs X k i j v k' i' j' = if k' = k ∧ i' = i ∧ j' = j then v else X k' i' j' := by
  by_cases h : k' = k ∧ i' = i
  · obtain ⟨rfl, rfl⟩ := h
    rw [xs_at]
    by_cases h2 : j' = j <;> simp [h2]
  · rw [xs_ne h, if_neg (fun z => h ⟨z.1, z.2.1⟩)]
/-- the kind of a list's elements -/
def ek (i : Nat) : Nat := if i = 0 then 12 else if i = 2 then 16 else if i = 3 then 14 else 4
abbrev ints (n : Nat) (x : Nat → Int) : AC := .inl (0, n, .inl (fun j => J (x j)))
abbrev bools (n : Nat) (x : Nat → Int) : AC := .inl (1, n, .inl (fun j => J (x j)))
abbrev chars (n : Nat) (x : Nat → Int) : AC := .inl (2, n, .inl (fun j => J (x j)))
abbrev AL : Type := Nat → Nat → Nat
def el (α : AL) (e : Nat) (v : Int) : Option Nat := if v < 0 then none else some (α e v.toNat)
/-- a formula's object: its kind stands at 9 (0 mark, 1 together, 2 credits, 3 count, 4 none) -/
def fcell (x : Nat → Int) : AC :=
  if x 9 = 0 then .inr (7, [.int (J (x 0)), .int (J (x 1)), .int (J (x 2))])
  else if x 9 = 1 then .inr (11, [.int (J (x 0)), .int (J (x 1))])
  else if x 9 = 2 then .inr (6, [.int (J (x 0)), .int (J (x 1))])
  else if x 9 = 3 then .inr (4, [.int (J (x 0)), .int (J (x 1)), .int (J (x 2)), .int (J (x 3)), .int (J (x 4))])
  else .inr (8, [.int (J (x 0)), .int (J (x 1))])
def ck0 (g : Gt) (α : AL) (i : Nat) (x : Nat → Int) : AC := .inr (13, [.ref (α 1 0), .ref (α 1 1), .ref (α 1 2), .ref (α 1 3), .ref (α 3 0), .int (J (x 5)), .int (J (x 6)), .ref (α 4 16), .ref (α 17 0), .ref (α 27 0), .ref (α 29 0), .ref (α 30 0)])
def ck1 (g : Gt) (α : AL) (i : Nat) (x : Nat → Int) : AC := .inr (2, [.int (J (x 0)), .ref (if x 1 = 0 then gE g else α 2 i), .int (J (x 2))])
def ck2 (g : Gt) (α : AL) (i : Nat) (x : Nat → Int) : AC := .inl (3, (x 0).toNat, .inr (.inr (.inr (.inr (fun j => el α (ek i) (x (j + 1)))))))
def ck3 (g : Gt) (α : AL) (i : Nat) (x : Nat → Int) : AC := ints 4 x
def ck4 (g : Gt) (α : AL) (i : Nat) (x : Nat → Int) : AC := .inr (10, [.int (J (x 0)), .ref (α 5 i), .ref (α 6 i), .ref (α 7 i), .ref (α 8 i), .ref (α 9 i), .ref (α 10 i)])
def ck5 (g : Gt) (α : AL) (i : Nat) (x : Nat → Int) : AC := bools 20 x
def ck6 (g : Gt) (α : AL) (i : Nat) (x : Nat → Int) : AC := bools 20 x
def ck7 (g : Gt) (α : AL) (i : Nat) (x : Nat → Int) : AC := ints 20 x
def ck8 (g : Gt) (α : AL) (i : Nat) (x : Nat → Int) : AC := ints 20 x
def ck9 (g : Gt) (α : AL) (i : Nat) (x : Nat → Int) : AC := ints 20 x
def ck10 (g : Gt) (α : AL) (i : Nat) (x : Nat → Int) : AC := .inl (4, 20, .inr (.inr (.inr (.inr (fun j => if j < 20 then some (α 11 (20 * i + j)) else none)))))
def ck11 (g : Gt) (α : AL) (i : Nat) (x : Nat → Int) : AC := ints 3 x
def ck12 (g : Gt) (α : AL) (i : Nat) (x : Nat → Int) : AC := .inr (5, [.int (J (i : Int)), .int (J (x 1)), .int (J (x 2)), .ref (α 13 i), .ref (α 1 (4 + i)), .int (J (x 5))])
def ck13 (g : Gt) (α : AL) (i : Nat) (x : Nat → Int) : AC := ints 4 x
def ck14 (g : Gt) (α : AL) (i : Nat) (x : Nat → Int) : AC := .inr (9, [.int (J (x 0)), .int (J (x 1)), .int (J (x 2)), .ref (α 15 i)])
def ck15 (g : Gt) (α : AL) (i : Nat) (x : Nat → Int) : AC := bools 20 x
def ck16 (g : Gt) (α : AL) (i : Nat) (x : Nat → Int) : AC := fcell x
def ck17 (g : Gt) (α : AL) (i : Nat) (x : Nat → Int) : AC := .inr (3, [.int (J (x 0)), .ref (α 18 0), .ref (α 19 0), .ref (α 20 0), .ref (α 21 0), .ref (α 22 0), .ref (α 23 0), .ref (α 24 0), .ref (α 25 0), .ref (α 26 0)])
def ck18 (g : Gt) (α : AL) (i : Nat) (x : Nat → Int) : AC := ints 4 x
def ck19 (g : Gt) (α : AL) (i : Nat) (x : Nat → Int) : AC := ints 4 x
def ck20 (g : Gt) (α : AL) (i : Nat) (x : Nat → Int) : AC := ints 20 x
def ck21 (g : Gt) (α : AL) (i : Nat) (x : Nat → Int) : AC := ints 4 x
def ck22 (g : Gt) (α : AL) (i : Nat) (x : Nat → Int) : AC := ints 4 x
def ck23 (g : Gt) (α : AL) (i : Nat) (x : Nat → Int) : AC := ints 20 x
def ck24 (g : Gt) (α : AL) (i : Nat) (x : Nat → Int) : AC := ints 4 x
def ck25 (g : Gt) (α : AL) (i : Nat) (x : Nat → Int) : AC := ints 4 x
def ck26 (g : Gt) (α : AL) (i : Nat) (x : Nat → Int) : AC := bools 256 x
def ck27 (g : Gt) (α : AL) (i : Nat) (x : Nat → Int) : AC := .inr (12, [.ref (α 28 0), .int (J (x 1))])
def ck28 (g : Gt) (α : AL) (i : Nat) (x : Nat → Int) : AC := chars 340 x
def ck29 (g : Gt) (α : AL) (i : Nat) (x : Nat → Int) : AC := bools 20 x
def ck30 (g : Gt) (α : AL) (i : Nat) (x : Nat → Int) : AC := ints 6 x
def ck40 (g : Gt) (α : AL) (i : Nat) (x : Nat → Int) : AC := .inr (14, [.ref (α 41 0), .ref (α 42 0), .ref (α 43 0), .ref (α 44 0), .ref (α 45 0), .ref (α 46 0), .ref (α 47 0), .ref (α 48 0), .ref (α 49 0)])
def ck41 (g : Gt) (α : AL) (i : Nat) (x : Nat → Int) : AC := ints 12 x
def ck42 (g : Gt) (α : AL) (i : Nat) (x : Nat → Int) : AC := ints 12 x
def ck43 (g : Gt) (α : AL) (i : Nat) (x : Nat → Int) : AC := ints 12 x
def ck44 (g : Gt) (α : AL) (i : Nat) (x : Nat → Int) : AC := ints 12 x
def ck45 (g : Gt) (α : AL) (i : Nat) (x : Nat → Int) : AC := ints 5 x
def ck46 (g : Gt) (α : AL) (i : Nat) (x : Nat → Int) : AC := ints 5 x
def ck47 (g : Gt) (α : AL) (i : Nat) (x : Nat → Int) : AC := ints 5 x
def ck48 (g : Gt) (α : AL) (i : Nat) (x : Nat → Int) : AC := ints 20 x
def ck49 (g : Gt) (α : AL) (i : Nat) (x : Nat → Int) : AC := ints 5 x
def ck50 (g : Gt) (α : AL) (i : Nat) (x : Nat → Int) : AC := ints 5 x
def ckL : List (Gt → AL → Nat → (Nat → Int) → AC) := [ck0, ck1, ck2, ck3, ck4, ck5, ck6, ck7, ck8, ck9, ck10, ck11, ck12, ck13, ck14, ck15, ck16, ck17, ck18, ck19, ck20, ck21, ck22, ck23, ck24, ck25, ck26, ck27, ck28, ck29, ck30, ck0, ck0, ck0, ck0, ck0, ck0, ck0, ck0, ck0, ck40, ck41, ck42, ck43, ck44, ck45, ck46, ck47, ck48, ck49, ck50]
def cellK (g : Gt) (α : AL) (k i : Nat) (x : Nat → Int) : AC := (ckL.getD k ck0) g α i x
/-- which cells there are, by the groups that come together: 0 what there is once, 2 a list's array, 4 a student, 12 a course, 14 a rule, 16 a formula -/
def gk (k i : Nat) : Nat × Nat :=
  if k = 2 then (2, i) else if k = 11 then (4, i / 20) else if 4 ≤ k ∧ k ≤ 10 then (4, i) else if k = 12 ∨ k = 13 then (12, i)
  else if k = 1 then (if i < 4 then (0, 0) else (12, i - 4)) else if k = 14 ∨ k = 15 then (14, i) else if k = 16 then (16, i) else if k = 50 then (50, i) else (0, i)
def kOk (k : Nat) : Bool := decide (k < 31) || decide (40 ≤ k ∧ k ≤ 50)
def vk (ν : Nat → Nat → Bool) (k i : Nat) : Bool := ν (gk k i).1 (gk k i).2 && kOk k && (!decide ((gk k i).1 = 0) || decide ((gk k i).2 = 0)) && (!decide ((gk k i).1 = 4) || decide (i < 340))
def TR (g : Gt) (α : AL) (ν : Nat → Nat → Bool) (X : XM) (h : AH) : Prop :=
  (∀ k i, vk ν k i = true → h (α k i) = some (cellK g α k i (X k i)) ∧ gB g ≤ α k i) ∧
  (∀ k i k' i', vk ν k i = true → vk ν k' i' = true → α k i = α k' i' → k = k' ∧ i = i') ∧
  (∀ k i j, k ≠ 91 → R31 (X k i j)) ∧ ν 0 0 = true
section TYP
variable {g : Gt} {α : AL} {ν : Nat → Nat → Bool} {X : XM} {h : AH}
theorem TR.rng (hT : TR g α ν X h) (k i j : Nat) (hk : k ≠ 91 := by decide) : R31 (X k i j) := hT.2.2.1 k i j hk
theorem TR.seti (hT : TR g α ν X h) {k i ki len : Nat} (hv : vk ν k i = true) (hk : ∀ x, cellK g α k i x = .inl (ki, len, .inl (fun j => J (x j)))) (j : Nat) {v : Int} (hr : R31 v) : TR g α ν (xs X k i j v) (hup h (α k i) (.inl (ki, len, .inl (upd (fun j => J (X k i j)) j (J v))))) := by
  refine ⟨fun k' i' hv' => ⟨?_, (hT.1 k' i' hv').2⟩, hT.2.1, fun k' i' j' h91 => ?_, hT.2.2.2⟩
  · by_cases e : k' = k ∧ i' = i
    · obtain ⟨rfl, rfl⟩ := e
      rw [hup_eq, hk, xs_fn]
      refine congrArg some (congrArg Sum.inl (congrArg (fun f => (ki, len, Sum.inl f)) (funext fun j' => ?_)))
      unfold upd
      by_cases e2 : j' = j
      · simp [e2]
      · simp [e2]
    · rw [hup_ne (fun z => e (hT.2.1 k' i' k i hv' hv z)), xs_ne e]
      exact (hT.1 k' i' hv').1
  · rw [xs_all]
    by_cases e : k' = k ∧ i' = i ∧ j' = j
    · rw [if_pos e]; exact hr
    · rw [if_neg e]; exact hT.rng k' i' j' h91
theorem TR.setf (hT : TR g α ν X h) {k i ci : Nat} {F : (Nat → Int) → List Value} (hv : vk ν k i = true) (hk : ∀ x, cellK g α k i x = .inr (ci, F x)) (j : Nat) {v : Int} (hr : R31 v) {fs : List Value} (hs : fs = F (fun j' => if j' = j then v else X k i j')) : TR g α ν (xs X k i j v) (hup h (α k i) (.inr (ci, fs))) := by
  refine ⟨fun k' i' hv' => ⟨?_, (hT.1 k' i' hv').2⟩, hT.2.1, fun k' i' j' h91 => ?_, hT.2.2.2⟩
  · by_cases e : k' = k ∧ i' = i
    · obtain ⟨rfl, rfl⟩ := e
      rw [hup_eq, hk, xs_fn, hs]
    · rw [hup_ne (fun z => e (hT.2.1 k' i' k i hv' hv z)), xs_ne e]
      exact (hT.1 k' i' hv').1
  · rw [xs_all]
    by_cases e : k' = k ∧ i' = i ∧ j' = j
    · rw [if_pos e]; exact hr
    · rw [if_neg e]; exact hT.rng k' i' j' h91
theorem tv0 (hT : TR g α ν X h)  : vk ν 0 0 = true := by simp [vk, gk, kOk, hT.2.2.2]
theorem tr0 (hT : TR g α ν X h)  : h (α 0 0) = some (ck0 g α 0 (X 0 0)) := (hT.1 0 0 (tv0 hT)).1
theorem tv1_0 (hT : TR g α ν X h) : vk ν 1 0 = true := by simp [vk, gk, kOk, hT.2.2.2]
theorem tr1_0 (hT : TR g α ν X h) : h (α 1 0) = some (ck1 g α 0 (X 1 0)) := (hT.1 1 0 (tv1_0 hT)).1
theorem tv1_1 (hT : TR g α ν X h) : vk ν 1 1 = true := by simp [vk, gk, kOk, hT.2.2.2]
theorem tr1_1 (hT : TR g α ν X h) : h (α 1 1) = some (ck1 g α 1 (X 1 1)) := (hT.1 1 1 (tv1_1 hT)).1
theorem tv1_2 (hT : TR g α ν X h) : vk ν 1 2 = true := by simp [vk, gk, kOk, hT.2.2.2]
theorem tr1_2 (hT : TR g α ν X h) : h (α 1 2) = some (ck1 g α 2 (X 1 2)) := (hT.1 1 2 (tv1_2 hT)).1
theorem tv1_3 (hT : TR g α ν X h) : vk ν 1 3 = true := by simp [vk, gk, kOk, hT.2.2.2]
theorem tr1_3 (hT : TR g α ν X h) : h (α 1 3) = some (ck1 g α 3 (X 1 3)) := (hT.1 1 3 (tv1_3 hT)).1
theorem tv1_W (hT : TR g α ν X h) {i : Nat} (hi : ν 12 i = true) : vk ν 1 (4 + i) = true := by
  have e : ¬ 4 + i < 4 := by omega
  simp [vk, gk, kOk, hi, e]
theorem tr1_W (hT : TR g α ν X h) {i : Nat} (hi : ν 12 i = true) : h (α 1 (4 + i)) = some (ck1 g α (4 + i) (X 1 (4 + i))) := (hT.1 1 (4 + i) (tv1_W hT hi)).1
theorem tv2 (hT : TR g α ν X h) {i : Nat} (hi : ν 2 i = true) : vk ν 2 i = true := by simp [vk, gk, kOk, hi]
theorem tr2 (hT : TR g α ν X h) {i : Nat} (hi : ν 2 i = true) : h (α 2 i) = some (ck2 g α i (X 2 i)) := (hT.1 2 i (tv2 hT hi)).1
theorem tv3 (hT : TR g α ν X h)  : vk ν 3 0 = true := by simp [vk, gk, kOk, hT.2.2.2]
theorem tr3 (hT : TR g α ν X h)  : h (α 3 0) = some (ck3 g α 0 (X 3 0)) := (hT.1 3 0 (tv3 hT)).1
theorem tv4 (hT : TR g α ν X h) {i : Nat} (hi : ν 4 i = true) (hl : i < 17) : vk ν 4 i = true := by simp [vk, gk, kOk, hi]; omega
theorem tr4 (hT : TR g α ν X h) {i : Nat} (hi : ν 4 i = true) (hl : i < 17) : h (α 4 i) = some (ck4 g α i (X 4 i)) := (hT.1 4 i (tv4 hT hi hl)).1
theorem tv5 (hT : TR g α ν X h) {i : Nat} (hi : ν 4 i = true) (hl : i < 17) : vk ν 5 i = true := by simp [vk, gk, kOk, hi]; omega
theorem tr5 (hT : TR g α ν X h) {i : Nat} (hi : ν 4 i = true) (hl : i < 17) : h (α 5 i) = some (ck5 g α i (X 5 i)) := (hT.1 5 i (tv5 hT hi hl)).1
theorem tv6 (hT : TR g α ν X h) {i : Nat} (hi : ν 4 i = true) (hl : i < 17) : vk ν 6 i = true := by simp [vk, gk, kOk, hi]; omega
theorem tr6 (hT : TR g α ν X h) {i : Nat} (hi : ν 4 i = true) (hl : i < 17) : h (α 6 i) = some (ck6 g α i (X 6 i)) := (hT.1 6 i (tv6 hT hi hl)).1
theorem tv7 (hT : TR g α ν X h) {i : Nat} (hi : ν 4 i = true) (hl : i < 17) : vk ν 7 i = true := by simp [vk, gk, kOk, hi]; omega
theorem tr7 (hT : TR g α ν X h) {i : Nat} (hi : ν 4 i = true) (hl : i < 17) : h (α 7 i) = some (ck7 g α i (X 7 i)) := (hT.1 7 i (tv7 hT hi hl)).1
theorem tv8 (hT : TR g α ν X h) {i : Nat} (hi : ν 4 i = true) (hl : i < 17) : vk ν 8 i = true := by simp [vk, gk, kOk, hi]; omega
theorem tr8 (hT : TR g α ν X h) {i : Nat} (hi : ν 4 i = true) (hl : i < 17) : h (α 8 i) = some (ck8 g α i (X 8 i)) := (hT.1 8 i (tv8 hT hi hl)).1
theorem tv9 (hT : TR g α ν X h) {i : Nat} (hi : ν 4 i = true) (hl : i < 17) : vk ν 9 i = true := by simp [vk, gk, kOk, hi]; omega
theorem tr9 (hT : TR g α ν X h) {i : Nat} (hi : ν 4 i = true) (hl : i < 17) : h (α 9 i) = some (ck9 g α i (X 9 i)) := (hT.1 9 i (tv9 hT hi hl)).1
theorem tv10 (hT : TR g α ν X h) {i : Nat} (hi : ν 4 i = true) (hl : i < 17) : vk ν 10 i = true := by simp [vk, gk, kOk, hi]; omega
theorem tr10 (hT : TR g α ν X h) {i : Nat} (hi : ν 4 i = true) (hl : i < 17) : h (α 10 i) = some (ck10 g α i (X 10 i)) := (hT.1 10 i (tv10 hT hi hl)).1
theorem tv11 (hT : TR g α ν X h) {i : Nat} (hi : ν 4 (i / 20) = true) (hl : i < 340) : vk ν 11 i = true := by simp [vk, gk, kOk, hi]; omega
theorem tr11 (hT : TR g α ν X h) {i : Nat} (hi : ν 4 (i / 20) = true) (hl : i < 340) : h (α 11 i) = some (ck11 g α i (X 11 i)) := (hT.1 11 i (tv11 hT hi hl)).1
theorem tv12 (hT : TR g α ν X h) {i : Nat} (hi : ν 12 i = true) : vk ν 12 i = true := by simp [vk, gk, kOk, hi]
theorem tr12 (hT : TR g α ν X h) {i : Nat} (hi : ν 12 i = true) : h (α 12 i) = some (ck12 g α i (X 12 i)) := (hT.1 12 i (tv12 hT hi)).1
theorem tv13 (hT : TR g α ν X h) {i : Nat} (hi : ν 12 i = true) : vk ν 13 i = true := by simp [vk, gk, kOk, hi]
theorem tr13 (hT : TR g α ν X h) {i : Nat} (hi : ν 12 i = true) : h (α 13 i) = some (ck13 g α i (X 13 i)) := (hT.1 13 i (tv13 hT hi)).1
theorem tv14 (hT : TR g α ν X h) {i : Nat} (hi : ν 14 i = true) : vk ν 14 i = true := by simp [vk, gk, kOk, hi]
theorem tr14 (hT : TR g α ν X h) {i : Nat} (hi : ν 14 i = true) : h (α 14 i) = some (ck14 g α i (X 14 i)) := (hT.1 14 i (tv14 hT hi)).1
theorem tv15 (hT : TR g α ν X h) {i : Nat} (hi : ν 14 i = true) : vk ν 15 i = true := by simp [vk, gk, kOk, hi]
theorem tr15 (hT : TR g α ν X h) {i : Nat} (hi : ν 14 i = true) : h (α 15 i) = some (ck15 g α i (X 15 i)) := (hT.1 15 i (tv15 hT hi)).1
theorem tv16 (hT : TR g α ν X h) {i : Nat} (hi : ν 16 i = true) : vk ν 16 i = true := by simp [vk, gk, kOk, hi]
theorem tr16 (hT : TR g α ν X h) {i : Nat} (hi : ν 16 i = true) : h (α 16 i) = some (ck16 g α i (X 16 i)) := (hT.1 16 i (tv16 hT hi)).1
theorem tv17 (hT : TR g α ν X h)  : vk ν 17 0 = true := by simp [vk, gk, kOk, hT.2.2.2]
theorem tr17 (hT : TR g α ν X h)  : h (α 17 0) = some (ck17 g α 0 (X 17 0)) := (hT.1 17 0 (tv17 hT)).1
theorem tv18 (hT : TR g α ν X h)  : vk ν 18 0 = true := by simp [vk, gk, kOk, hT.2.2.2]
theorem tr18 (hT : TR g α ν X h)  : h (α 18 0) = some (ck18 g α 0 (X 18 0)) := (hT.1 18 0 (tv18 hT)).1
theorem tv19 (hT : TR g α ν X h)  : vk ν 19 0 = true := by simp [vk, gk, kOk, hT.2.2.2]
theorem tr19 (hT : TR g α ν X h)  : h (α 19 0) = some (ck19 g α 0 (X 19 0)) := (hT.1 19 0 (tv19 hT)).1
theorem tv20 (hT : TR g α ν X h)  : vk ν 20 0 = true := by simp [vk, gk, kOk, hT.2.2.2]
theorem tr20 (hT : TR g α ν X h)  : h (α 20 0) = some (ck20 g α 0 (X 20 0)) := (hT.1 20 0 (tv20 hT)).1
theorem tv21 (hT : TR g α ν X h)  : vk ν 21 0 = true := by simp [vk, gk, kOk, hT.2.2.2]
theorem tr21 (hT : TR g α ν X h)  : h (α 21 0) = some (ck21 g α 0 (X 21 0)) := (hT.1 21 0 (tv21 hT)).1
theorem tv22 (hT : TR g α ν X h)  : vk ν 22 0 = true := by simp [vk, gk, kOk, hT.2.2.2]
theorem tr22 (hT : TR g α ν X h)  : h (α 22 0) = some (ck22 g α 0 (X 22 0)) := (hT.1 22 0 (tv22 hT)).1
theorem tv23 (hT : TR g α ν X h)  : vk ν 23 0 = true := by simp [vk, gk, kOk, hT.2.2.2]
theorem tr23 (hT : TR g α ν X h)  : h (α 23 0) = some (ck23 g α 0 (X 23 0)) := (hT.1 23 0 (tv23 hT)).1
theorem tv24 (hT : TR g α ν X h)  : vk ν 24 0 = true := by simp [vk, gk, kOk, hT.2.2.2]
theorem tr24 (hT : TR g α ν X h)  : h (α 24 0) = some (ck24 g α 0 (X 24 0)) := (hT.1 24 0 (tv24 hT)).1
theorem tv25 (hT : TR g α ν X h)  : vk ν 25 0 = true := by simp [vk, gk, kOk, hT.2.2.2]
theorem tr25 (hT : TR g α ν X h)  : h (α 25 0) = some (ck25 g α 0 (X 25 0)) := (hT.1 25 0 (tv25 hT)).1
theorem tv26 (hT : TR g α ν X h)  : vk ν 26 0 = true := by simp [vk, gk, kOk, hT.2.2.2]
theorem tr26 (hT : TR g α ν X h)  : h (α 26 0) = some (ck26 g α 0 (X 26 0)) := (hT.1 26 0 (tv26 hT)).1
theorem tv27 (hT : TR g α ν X h)  : vk ν 27 0 = true := by simp [vk, gk, kOk, hT.2.2.2]
theorem tr27 (hT : TR g α ν X h)  : h (α 27 0) = some (ck27 g α 0 (X 27 0)) := (hT.1 27 0 (tv27 hT)).1
theorem tv28 (hT : TR g α ν X h)  : vk ν 28 0 = true := by simp [vk, gk, kOk, hT.2.2.2]
theorem tr28 (hT : TR g α ν X h)  : h (α 28 0) = some (ck28 g α 0 (X 28 0)) := (hT.1 28 0 (tv28 hT)).1
theorem tv29 (hT : TR g α ν X h)  : vk ν 29 0 = true := by simp [vk, gk, kOk, hT.2.2.2]
theorem tr29 (hT : TR g α ν X h)  : h (α 29 0) = some (ck29 g α 0 (X 29 0)) := (hT.1 29 0 (tv29 hT)).1
theorem tv30 (hT : TR g α ν X h)  : vk ν 30 0 = true := by simp [vk, gk, kOk, hT.2.2.2]
theorem tr30 (hT : TR g α ν X h)  : h (α 30 0) = some (ck30 g α 0 (X 30 0)) := (hT.1 30 0 (tv30 hT)).1
theorem tv40 (hT : TR g α ν X h)  : vk ν 40 0 = true := by simp [vk, gk, kOk, hT.2.2.2]
theorem tr40 (hT : TR g α ν X h)  : h (α 40 0) = some (ck40 g α 0 (X 40 0)) := (hT.1 40 0 (tv40 hT)).1
theorem tv41 (hT : TR g α ν X h)  : vk ν 41 0 = true := by simp [vk, gk, kOk, hT.2.2.2]
theorem tr41 (hT : TR g α ν X h)  : h (α 41 0) = some (ck41 g α 0 (X 41 0)) := (hT.1 41 0 (tv41 hT)).1
theorem tv42 (hT : TR g α ν X h)  : vk ν 42 0 = true := by simp [vk, gk, kOk, hT.2.2.2]
theorem tr42 (hT : TR g α ν X h)  : h (α 42 0) = some (ck42 g α 0 (X 42 0)) := (hT.1 42 0 (tv42 hT)).1
theorem tv43 (hT : TR g α ν X h)  : vk ν 43 0 = true := by simp [vk, gk, kOk, hT.2.2.2]
theorem tr43 (hT : TR g α ν X h)  : h (α 43 0) = some (ck43 g α 0 (X 43 0)) := (hT.1 43 0 (tv43 hT)).1
theorem tv44 (hT : TR g α ν X h)  : vk ν 44 0 = true := by simp [vk, gk, kOk, hT.2.2.2]
theorem tr44 (hT : TR g α ν X h)  : h (α 44 0) = some (ck44 g α 0 (X 44 0)) := (hT.1 44 0 (tv44 hT)).1
theorem tv45 (hT : TR g α ν X h)  : vk ν 45 0 = true := by simp [vk, gk, kOk, hT.2.2.2]
theorem tr45 (hT : TR g α ν X h)  : h (α 45 0) = some (ck45 g α 0 (X 45 0)) := (hT.1 45 0 (tv45 hT)).1
theorem tv46 (hT : TR g α ν X h)  : vk ν 46 0 = true := by simp [vk, gk, kOk, hT.2.2.2]
theorem tr46 (hT : TR g α ν X h)  : h (α 46 0) = some (ck46 g α 0 (X 46 0)) := (hT.1 46 0 (tv46 hT)).1
theorem tv47 (hT : TR g α ν X h)  : vk ν 47 0 = true := by simp [vk, gk, kOk, hT.2.2.2]
theorem tr47 (hT : TR g α ν X h)  : h (α 47 0) = some (ck47 g α 0 (X 47 0)) := (hT.1 47 0 (tv47 hT)).1
theorem tv48 (hT : TR g α ν X h)  : vk ν 48 0 = true := by simp [vk, gk, kOk, hT.2.2.2]
theorem tr48 (hT : TR g α ν X h)  : h (α 48 0) = some (ck48 g α 0 (X 48 0)) := (hT.1 48 0 (tv48 hT)).1
theorem tv49 (hT : TR g α ν X h)  : vk ν 49 0 = true := by simp [vk, gk, kOk, hT.2.2.2]
theorem tr49 (hT : TR g α ν X h)  : h (α 49 0) = some (ck49 g α 0 (X 49 0)) := (hT.1 49 0 (tv49 hT)).1
theorem tv50 (hT : TR g α ν X h) {i : Nat} (hi : ν 50 i = true) : vk ν 50 i = true := by simp [vk, gk, kOk, hi]
theorem tr50 (hT : TR g α ν X h) {i : Nat} (hi : ν 50 i = true) : h (α 50 i) = some (ck50 g α i (X 50 i)) := (hT.1 50 i (tv50 hT hi)).1
end TYP
