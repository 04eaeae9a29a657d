/-! the end of a term -/
theorem xs_id {X : XM} {k i j : Nat} {v : Int} (h : X k i j = v) : xs X k i j v = X := by
  funext k' i' j'
  rw [xs_all]
  by_cases e : k' = k ∧ i' = i ∧ j' = j
  · obtain ⟨rfl, rfl, rfl⟩ := e
    rw [if_pos ⟨rfl, rfl, rfl⟩, h]
  · rw [if_neg e]
/-- the mark that an attempt gets at the end -/
def etm (X : XM) (s c : Nat) : Int := if 0 < X 7 s c then X 7 s c else 0
/-- the end of a course for a student: with the leaving; without -/
def ctC (X : XM) (s c : Nat) : XM := xs (xs (if tak X s c = true then aa X s c (etm X s c) else X) 5 s c 0) 7 s c (-1)
def dtC (X : XM) (s c : Nat) : XM := xs (if tak X s c = true then aa X s c (etm X s c) else X) 7 s c (-1)
def ctS (X : XM) (s : Nat) : Nat → XM
  | 0 => X
  | n + 1 => ctC (ctS X s n) s n
def dtS (X : XM) (s : Nat) : Nat → XM
  | 0 => X
  | n + 1 => dtC (dtS X s n) s n
/-- the first n of what s takes left -/
def z5 (X : XM) (s n : Nat) : XM := fun k i => if k = 5 ∧ i = s then (fun j => if j < n then 0 else X 5 s j) else X k i
theorem z5_k {X : XM} {s n k : Nat} (h : k ≠ 5) : z5 X s n k = X k := funext fun i => if_neg (fun z => h z.1)
theorem z5_at (X : XM) (s n j : Nat) : z5 X s n 5 s j = if j < n then 0 else X 5 s j := by
  unfold z5
  rw [if_pos ⟨rfl, rfl⟩]
theorem z5_0 (X : XM) (s : Nat) : z5 X s 0 = X := by
  funext k i j
  unfold z5
  by_cases e : k = 5 ∧ i = s
  · obtain ⟨rfl, rfl⟩ := e
    rw [if_pos ⟨rfl, rfl⟩, if_neg (Nat.not_lt_zero j)]
  · rw [if_neg e]
theorem z5_s (X : XM) (s n : Nat) : xs (z5 X s n) 5 s n 0 = z5 X s (n + 1) := by
  funext k i j
  rw [xs_all]
  unfold z5
  by_cases e : k = 5 ∧ i = s
  · obtain ⟨rfl, rfl⟩ := e
    by_cases q : j = n
    · subst q; simp
    · simp only [if_true, and_self, true_and, q, if_false]
      by_cases q2 : j < n
      · rw [if_pos q2, if_pos (by omega)]
      · rw [if_neg q2, if_neg (by omega)]
  · rw [if_neg (fun z => e ⟨z.1, z.2.1⟩), if_neg e, if_neg e]
theorem xs_z5 (X : XM) (s n : Nat) {k i j : Nat} {v : Int} (h : k ≠ 5) : xs (z5 X s n) k i j v = z5 (xs X k i j v) s n := by
  funext k' i' j'
  rw [xs_all]
  unfold z5
  by_cases e : k' = 5 ∧ i' = s
  · obtain ⟨rfl, rfl⟩ := e
    rw [if_neg (fun z => h z.1.symm), show xs X k i j v 5 = X 5 from xs_nk (fun z => h z.symm)]
  · rw [if_neg e, if_neg e, xs_all]
theorem aa_z5 (X : XM) (s n s2 c : Nat) (m : Int) : aa (z5 X s n) s2 c m = z5 (aa X s2 c m) s n := by
  unfold aa
  rw [z5_k (k := 9) (by decide), z5_k (k := 8) (by decide)]
  by_cases e : X 9 s2 c < 3
  · rw [if_pos e, if_pos e, xs_z5 _ _ _ (by decide), xs_z5 _ _ _ (by decide), xs_z5 _ _ _ (by decide)]
  · rw [if_neg e, if_neg e]
theorem ctC_z5 (X : XM) (s n : Nat) : ctC (z5 X s n) s n = z5 (dtC X s n) s (n + 1) := by
  have et : tak (z5 X s n) s n = tak X s n := by unfold tak; rw [z5_at, if_neg (Nat.lt_irrefl n)]
  have em_ : etm (z5 X s n) s n = etm X s n := by unfold etm; rw [z5_k (by decide)]
  unfold ctC dtC
  rw [et, em_]
  by_cases e : tak X s n = true
  · rw [if_pos e, if_pos e, aa_z5, z5_s, xs_z5 _ _ _ (by decide)]
  · rw [if_neg e, if_neg e, z5_s, xs_z5 _ _ _ (by decide)]
theorem ctS_z5 (X : XM) (s : Nat) : ∀ n, ctS X s n = z5 (dtS X s n) s n
  | 0 => (z5_0 X s).symm
  | n + 1 => by rw [ctS, ctS_z5 X s n, ctC_z5]; rfl
