/-! the end of a term -/
theorem xs_id {X : XM} {k i j : Nat} {v : Int} (h : X k i j = v) : xs X k i j v = X := by
  funext k' i' j'
  rw [xs_all]
  by_cases e : k' = k ∧ i' = i ∧ j' = j
  · obtain ⟨rfl, rfl, rfl⟩ := e
    rw [if_pos ⟨rfl, rfl, rfl⟩, h]
  · rw [if_neg e]
/-- the mark that an attempt gets at the end -/
def etm (X : XM) (s c : Nat) : Int := if 0 < X 7 s c then X 7 s c else 0
/-- the end of a course for a student: with the leaving; without -/
def ctC (X : XM) (s c : Nat) : XM := xs (xs (if tak X s c = true then aa X s c (etm X s c) else X) 5 s c 0) 7 s c (-1)
def dtC (X : XM) (s c : Nat) : XM := xs (if tak X s c = true then aa X s c (etm X s c) else X) 7 s c (-1)
def ctS (X : XM) (s : Nat) : Nat → XM
  | 0 => X
  | n + 1 => ctC (ctS X s n) s n
def dtS (X : XM) (s : Nat) : Nat → XM
  | 0 => X
  | n + 1 => dtC (dtS X s n) s n
/-- the first n of what s takes left -/
def z5 (X : XM) (s n : Nat) : XM := fun k i => if k = 5 ∧ i = s then (fun j => if j < n then 0 else X 5 s j) else X k i
theorem z5_k {X : XM} {s n k : Nat} (h : k ≠ 5) : z5 X s n k = X k := funext fun i => if_neg (fun z => h z.1)
theorem z5_at (X : XM) (s n j : Nat) : z5 X s n 5 s j = if j < n then 0 else X 5 s j := by
  unfold z5
  rw [if_pos ⟨rfl, rfl⟩]
theorem z5_0 (X : XM) (s : Nat) : z5 X s 0 = X := by
  funext k i j
  unfold z5
  by_cases e : k = 5 ∧ i = s
  · obtain ⟨rfl, rfl⟩ := e
    rw [if_pos ⟨rfl, rfl⟩, if_neg (Nat.not_lt_zero j)]
  · rw [if_neg e]
theorem z5_s (X : XM) (s n : Nat) : xs (z5 X s n) 5 s n 0 = z5 X s (n + 1) := by
  funext k i j
  rw [xs_all]
  unfold z5
  by_cases e : k = 5 ∧ i = s
  · obtain ⟨rfl, rfl⟩ := e
    by_cases q : j = n
    · subst q; simp
    · simp only [if_true, and_self, true_and, q, if_false]
      by_cases q2 : j < n
      · rw [if_pos q2, if_pos (by omega)]
      · rw [if_neg q2, if_neg (by omega)]
  · rw [if_neg (fun z => e ⟨z.1, z.2.1⟩), if_neg e, if_neg e]
theorem xs_z5 (X : XM) (s n : Nat) {k i j : Nat} {v : Int} (h : k ≠ 5) : xs (z5 X s n) k i j v = z5 (xs X k i j v) s n := by
  funext k' i' j'
  rw [xs_all]
  unfold z5
  by_cases e : k' = 5 ∧ i' = s
  · obtain ⟨rfl, rfl⟩ := e
    rw [if_neg (fun z => h z.1.symm), show xs X k i j v 5 = X 5 from xs_nk (fun z => h z.symm)]
  · rw [if_neg e, if_neg e, xs_all]
theorem aa_z5 (X : XM) (s n s2 c : Nat) (m : Int) : aa (z5 X s n) s2 c m = z5 (aa X s2 c m) s n := by
  unfold aa
  rw [z5_k (k := 9) (by decide), z5_k (k := 8) (by decide)]
  by_cases e : X 9 s2 c < 3
  · rw [if_pos e, if_pos e, xs_z5 _ _ _ (by decide), xs_z5 _ _ _ (by decide), xs_z5 _ _ _ (by decide)]
  · rw [if_neg e, if_neg e]
theorem ctC_z5 (X : XM) (s n : Nat) : ctC (z5 X s n) s n = z5 (dtC X s n) s (n + 1) := by
  have et : tak (z5 X s n) s n = tak X s n := by unfold tak; rw [z5_at, if_neg (Nat.lt_irrefl n)]
  have em_ : etm (z5 X s n) s n = etm X s n := by unfold etm; rw [z5_k (by decide)]
  unfold ctC dtC
  rw [et, em_]
  by_cases e : tak X s n = true
  · rw [if_pos e, if_pos e, aa_z5, z5_s, xs_z5 _ _ _ (by decide)]
  · rw [if_neg e, if_neg e, z5_s, xs_z5 _ _ _ (by decide)]
theorem ctS_z5 (X : XM) (s : Nat) : ∀ n, ctS X s n = z5 (dtS X s n) s n
  | 0 => (z5_0 X s).symm
  | n + 1 => by rw [ctS, ctS_z5 X s n, ctC_z5]; rfl
theorem xs_comm (X : XM) {k i j k2 i2 j2 : Nat} {v w : Int} (h : k ≠ k2) : xs (xs X k i j v) k2 i2 j2 w = xs (xs X k2 i2 j2 w) k i j v := by
  funext a b c
  rw [xs_all, xs_all, xs_all, xs_all]
  by_cases e : a = k ∧ b = i ∧ c = j
  · rw [if_neg (show ¬ (a = k2 ∧ b = i2 ∧ c = j2) from fun z => h (e.1.symm.trans z.1)), if_pos e, if_pos e]
  · rw [if_neg e, if_neg e]
theorem aa_5 (X : XM) (s c s2 c2 : Nat) (m : Int) : xs (aa X s c m) 5 s2 c2 0 = aa (xs X 5 s2 c2 0) s c m := by
  unfold aa
  rw [xs_nk (k' := 9) (by decide), xs_nk (k' := 8) (by decide)]
  by_cases e : X 9 s c < 3
  · rw [if_pos e, if_pos e, xs_comm _ (by decide), xs_comm (k := 9) (k2 := 5) _ (by decide), xs_comm (k := 11) (k2 := 5) _ (by decide)]
  · rw [if_neg e, if_neg e]
theorem etm_R {X : XM} (hO : WO X) {s c : Nat} (hs : (s : Int) < nS X) (hc : c < 20) : -1 ≤ etm X s c ∧ etm X s c ≤ 100 := by
  have q := wo_tm hO s c hs hc
  unfold etm
  split <;> omega
theorem wo_ctC {X : XM} (h : WO X) {s c : Nat} (hs : (s : Int) < nS X) (hc : c < 20) (hd : 5 < X 0 0 5) : WO (ctC X s c) := by
  unfold ctC
  by_cases hcc : (c : Int) < nC X
  · by_cases e : tak X s c = true
    · rw [if_pos e, aa_5]
      have e5 : X 5 s c ≠ 0 := of_decide_eq_true e
      have q := wo_tk3 h s c hs hc e5
      have n1 : ∀ {j : Nat}, xs X 5 s c 0 1 j = X 1 j := fun {j} => by rw [xs_nk (by decide)]
      have w1 := wo_aa (wo_un h s c) (s := s) (c := c) (m := etm X s c) (by unfold nS; rw [n1]; exact hs) (by unfold nC; rw [n1]; exact hcc) (by rw [xs_nk (by decide)]; exact hd) (by rw [xs_at, if_pos rfl]) (by rw [xs_nk (by decide)]; omega) (etm_R h hs hc)
      exact wo_mk w1 (by unfold nC; rw [aa_k (by decide) (by decide) (by decide), n1]; exact hcc) (by omega)
    · rw [if_neg e]
      exact wo_mk (wo_un h s c) (by unfold nC; rw [xs_nk (by decide)]; exact hcc) (by omega)
  · have f := wo_far h s c hs (by omega) hc
    have f7 := wo_f7 h s c hs (by omega) hc
    have e : ¬ tak X s c = true := fun z => absurd f.1 (of_decide_eq_true z)
    rw [if_neg e, xs_id f.1, xs_id f7]
    exact h
theorem ctC_k {X : XM} {s c k : Nat} (h5 : k ≠ 5) (h7 : k ≠ 7) (h8 : k ≠ 8) (h9 : k ≠ 9) (h11 : k ≠ 11) : ctC X s c k = X k := by
  unfold ctC
  rw [xs_nk h7, xs_nk h5]
  split
  · exact aa_k h8 h9 h11
  · rfl
theorem ctS_k {X : XM} {s k : Nat} (h5 : k ≠ 5) (h7 : k ≠ 7) (h8 : k ≠ 8) (h9 : k ≠ 9) (h11 : k ≠ 11) : ∀ n, ctS X s n k = X k
  | 0 => rfl
  | n + 1 => by rw [ctS, ctC_k h5 h7 h8 h9 h11]; exact ctS_k h5 h7 h8 h9 h11 n
theorem wo_ctS {X : XM} (h : WO X) {s : Nat} (hs : (s : Int) < nS X) (hd : 5 < X 0 0 5) : ∀ n, n ≤ 20 → WO (ctS X s n)
  | 0, _ => h
  | n + 1, hn => by
    have e1 : ctS X s n 1 = X 1 := ctS_k (by decide) (by decide) (by decide) (by decide) (by decide) n
    have e0 : ctS X s n 0 = X 0 := ctS_k (by decide) (by decide) (by decide) (by decide) (by decide) n
    exact wo_ctC (wo_ctS h hs hd n (by omega)) (by unfold nS; rw [e1]; exact hs) (by omega) (by rw [e0]; exact hd)
theorem wx_ctS {ν : Nat → Nat → Bool} {X : XM} (h : WX ν X) {s : Nat} (hs : (s : Int) < nS X) (hd : 5 < X 0 0 5) {n : Nat} (hn : n ≤ 20) : WX ν (ctS X s n) :=
  ⟨wo_ctS h.1 hs hd n hn, wv_k h.2 (ctS_k (by decide) (by decide) (by decide) (by decide) (by decide) n) (ctS_k (by decide) (by decide) (by decide) (by decide) (by decide) n)⟩
/-- all students -/
def ctA (X : XM) : Nat → XM
  | 0 => X
  | n + 1 => ctS (ctA X n) n 20
theorem ctA_k {X : XM} {k : Nat} (h5 : k ≠ 5) (h7 : k ≠ 7) (h8 : k ≠ 8) (h9 : k ≠ 9) (h11 : k ≠ 11) : ∀ n, ctA X n k = X k
  | 0 => rfl
  | n + 1 => by rw [ctA, ctS_k h5 h7 h8 h9 h11]; exact ctA_k h5 h7 h8 h9 h11 n
theorem wx_ctA {ν : Nat → Nat → Bool} {X : XM} (h : WX ν X) (hd : 5 < X 0 0 5) : ∀ n : Nat, (n : Int) ≤ nS X → WX ν (ctA X n)
  | 0, _ => h
  | n + 1, hn => by
    have e1 : ctA X n 1 = X 1 := ctA_k (by decide) (by decide) (by decide) (by decide) (by decide) n
    have e0 : ctA X n 0 = X 0 := ctA_k (by decide) (by decide) (by decide) (by decide) (by decide) n
    exact wx_ctS (wx_ctA h hd n (by omega)) (by unfold nS; rw [e1]; show (n : Int) < nS X; omega) (by rw [e0]; exact hd) (Nat.le_refl 20)
/-- how many attempts a term's end brings -/
def caN (X : XM) : Nat → Int
  | 0 => 0
  | n + 1 => caN X n + cnt (tak X n) 20
