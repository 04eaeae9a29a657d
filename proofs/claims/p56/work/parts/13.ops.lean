/-! THE CALLS as changes of the memory: leaving a list, taking a seat, giving seats out -/
/-- a number as the machine keeps it -/
def wr (z : Int) : Int := (J z).toInt
theorem J_wr (z : Int) : J z = J (wr z) := (J_of (J z)).symm
theorem R31_wr (z : Int) : R31 (wr z) := R31_of (J z)
/-- a whole cell new -/
def xw (X : XM) (k i : Nat) (x : Nat → Int) : XM := fun k' i' => if k' = k ∧ i' = i then x else X k' i'
theorem xw_at (X : XM) (k i : Nat) (x : Nat → Int) : xw X k i x k i = x := if_pos ⟨rfl, rfl⟩
theorem xw_ne {X : XM} {k i : Nat} {x : Nat → Int} {k' i' : Nat} (h : ¬ (k' = k ∧ i' = i)) : xw X k i x k' i' = X k' i' := if_neg h
theorem bsT_cg {X X' : XM} (h6 : X' 6 = X 6) (h11 : X' 11 = X 11) : bsT X' = bsT X := by
  funext s c k
  induction k with
  | zero => show (if mvd X' s c = true then (50 : Int) else -1) = (if mvd X s c = true then (50 : Int) else -1); unfold mvd; rw [h6]
  | succ k ih => show (if bsT X' s c k < X' 11 (20 * s + c) k then X' 11 (20 * s + c) k else bsT X' s c k) = _; rw [ih, h11]; rfl
/-- the k-th of the list of course c leaves it (as the class's list does it) -/
def lv (X : XM) (c k : Nat) : XM := fun kk i =>
  if kk = 1 ∧ i = 4 + c then (fun j => if j = 0 then wr (X 1 (4 + c) 0 + 1) else if j = 2 then X 1 (4 + c) 2 - 1 else X 1 (4 + c) j)
  else if kk = 2 ∧ i = 4 + c then (fun j => if j = (X 1 (4 + c) 2).toNat then -1 else if k + 1 ≤ j ∧ j < (X 1 (4 + c) 2).toNat then X 2 (4 + c) (j + 1) else X 2 (4 + c) j)
  else X kk i
theorem lv_k {X : XM} {c k kk : Nat} (h1 : kk ≠ 1) (h2 : kk ≠ 2) : lv X c k kk = X kk := funext fun i => by
  show (if _ then _ else if _ then _ else _) = _
  rw [if_neg (fun z => h1 z.1), if_neg (fun z => h2 z.1)]
theorem lv_ne {X : XM} {c k kk i : Nat} (h : i ≠ 4 + c) : lv X c k kk i = X kk i := by
  show (if _ then _ else if _ then _ else _) = _
  rw [if_neg (fun z => h z.2), if_neg (fun z => h z.2)]
theorem lv_1 (X : XM) (c k j : Nat) : lv X c k 1 (4 + c) j = if j = 0 then wr (X 1 (4 + c) 0 + 1) else if j = 2 then X 1 (4 + c) 2 - 1 else X 1 (4 + c) j := by
  unfold lv
  rw [if_pos ⟨rfl, rfl⟩]
theorem lv_2 (X : XM) (c k j : Nat) : lv X c k 2 (4 + c) j = if j = (X 1 (4 + c) 2).toNat then -1 else if k + 1 ≤ j ∧ j < (X 1 (4 + c) 2).toNat then X 2 (4 + c) (j + 1) else X 2 (4 + c) j := by
  unfold lv
  rw [if_neg (by omega), if_pos ⟨rfl, rfl⟩]
theorem lv_n (X : XM) (c k c' : Nat) : lv X c k 1 (4 + c') 2 = if c' = c then X 1 (4 + c) 2 - 1 else X 1 (4 + c') 2 := by
  by_cases e : c' = c
  · subst e; rw [lv_1, if_pos rfl, if_neg (by decide), if_pos rfl]
  · rw [lv_ne (by omega), if_neg e]
/-- where an element of a list lay before -/
theorem lv_a (X : XM) (c k c' j : Nat) (hk : (k : Int) < X 1 (4 + c) 2) (hj : (j : Int) < lv X c k 1 (4 + c') 2) : ∃ j' : Nat, (j' : Int) < X 1 (4 + c') 2 ∧ lv X c k 2 (4 + c') (j + 1) = X 2 (4 + c') (j' + 1) := by
  rw [lv_n] at hj
  by_cases e : c' = c
  · subst e
    rw [if_pos rfl] at hj
    rw [lv_2, if_neg (by omega)]
    by_cases q : k + 1 ≤ j + 1 ∧ j + 1 < (X 1 (4 + c') 2).toNat
    · exact ⟨j + 1, by omega, by rw [if_pos q]⟩
    · exact ⟨j, by omega, by rw [if_neg q]⟩
  · rw [if_neg e] at hj
    exact ⟨j, hj, by rw [lv_ne (by omega)]⟩
set_option maxHeartbeats 2000000 in
theorem wo_lv {X : XM} (h : WO X) {c k : Nat} (hc : (c : Int) < nC X) (hk : (k : Int) < X 1 (4 + c) 2) : WO (lv X c k) := by
  have k0 : (lv X c k) 0 = X 0 := lv_k (by decide) (by decide)
  have k3 : (lv X c k) 3 = X 3 := lv_k (by decide) (by decide)
  have k4 : (lv X c k) 4 = X 4 := lv_k (by decide) (by decide)
  have k5 : (lv X c k) 5 = X 5 := lv_k (by decide) (by decide)
  have k6 : (lv X c k) 6 = X 6 := lv_k (by decide) (by decide)
  have k7 : (lv X c k) 7 = X 7 := lv_k (by decide) (by decide)
  have k8 : (lv X c k) 8 = X 8 := lv_k (by decide) (by decide)
  have k9 : (lv X c k) 9 = X 9 := lv_k (by decide) (by decide)
  have k11 : (lv X c k) 11 = X 11 := lv_k (by decide) (by decide)
  have k12 : (lv X c k) 12 = X 12 := lv_k (by decide) (by decide)
  have k13 : (lv X c k) 13 = X 13 := lv_k (by decide) (by decide)
  have k14 : (lv X c k) 14 = X 14 := lv_k (by decide) (by decide)
  have k15 : (lv X c k) 15 = X 15 := lv_k (by decide) (by decide)
  have k16 : (lv X c k) 16 = X 16 := lv_k (by decide) (by decide)
  have l0 : (lv X c k) 1 0 2 = X 1 0 2 := by rw [lv_ne (by omega)]
  have l1 : (lv X c k) 1 1 2 = X 1 1 2 := by rw [lv_ne (by omega)]
  have l2 : (lv X c k) 1 2 2 = X 1 2 2 := by rw [lv_ne (by omega)]
  have l3 : (lv X c k) 1 3 2 = X 1 3 2 := by rw [lv_ne (by omega)]
  have kb : bsT (lv X c k) = bsT X := bsT_cg k6 k11
  refine ⟨?_, ?_, ?_, ?_, ?_, ?_, ?_, ?_, ?_, ?_, ?_, ?_, ?_, ?_, ?_, ?_, ?_, ?_, ?_, ?_, ?_, ?_, ?_, ?_, ?_, ?_, ?_, ?_, ?_, ?_, ?_, ?_, ?_, ?_, ?_, ?_, ?_, trivial⟩
  · -- nC
    simp only [nC, nS, nF, nR, k0, k3, k4, k5, k6, k7, k8, k9, k11, k12, k13, k14, k15, k16, l0, l1, l2, l3, kb]; exact wo_nC h
  · -- nS
    simp only [nC, nS, nF, nR, k0, k3, k4, k5, k6, k7, k8, k9, k11, k12, k13, k14, k15, k16, l0, l1, l2, l3, kb]; exact wo_nS h
  · -- nF
    simp only [nC, nS, nF, nR, k0, k3, k4, k5, k6, k7, k8, k9, k11, k12, k13, k14, k15, k16, l0, l1, l2, l3, kb]; exact wo_nF h
  · -- nR
    simp only [nC, nS, nF, nR, k0, k3, k4, k5, k6, k7, k8, k9, k11, k12, k13, k14, k15, k16, l0, l1, l2, l3, kb]; exact wo_nR h
  · -- day
    simp only [nC, nS, nF, nR, k0, k3, k4, k5, k6, k7, k8, k9, k11, k12, k13, k14, k15, k16, l0, l1, l2, l3, kb]; exact wo_day h
  · -- term
    simp only [nC, nS, nF, nR, k0, k3, k4, k5, k6, k7, k8, k9, k11, k12, k13, k14, k15, k16, l0, l1, l2, l3, kb]; exact wo_term h
  · -- crd
    simp only [nC, nS, nF, nR, k0, k3, k4, k5, k6, k7, k8, k9, k11, k12, k13, k14, k15, k16, l0, l1, l2, l3, kb]; exact wo_crd h
  · -- sea
    simp only [nC, nS, nF, nR, k0, k3, k4, k5, k6, k7, k8, k9, k11, k12, k13, k14, k15, k16, l0, l1, l2, l3, kb]; exact wo_sea h
  · -- req
    simp only [nC, nS, nF, nR, k0, k3, k4, k5, k6, k7, k8, k9, k11, k12, k13, k14, k15, k16, l0, l1, l2, l3, kb]; exact wo_req h
  · -- res
    simp only [nC, nS, nF, nR, k0, k3, k4, k5, k6, k7, k8, k9, k11, k12, k13, k14, k15, k16, l0, l1, l2, l3, kb]; exact wo_res h
  · -- wN
    intro c2 h2; simp only [nC, l0] at h2; have q := wo_wN h c2 h2; rw [lv_n]; split <;> (first | omega | (rename_i e; subst e; omega))
  · -- wA
    intro c2 j h2 hj; simp only [nC, nS, l0, l1] at *; obtain ⟨j2, a1, a2⟩ := lv_a X c k c2 j hk hj; rw [a2]; exact wo_wA h c2 j2 h2 a1
  · -- maj
    simp only [nC, nS, nF, nR, k0, k3, k4, k5, k6, k7, k8, k9, k11, k12, k13, k14, k15, k16, l0, l1, l2, l3, kb]; exact wo_maj h
  · -- t01
    simp only [nC, nS, nF, nR, k0, k3, k4, k5, k6, k7, k8, k9, k11, k12, k13, k14, k15, k16, l0, l1, l2, l3, kb]; exact wo_t01 h
  · -- m01
    simp only [nC, nS, nF, nR, k0, k3, k4, k5, k6, k7, k8, k9, k11, k12, k13, k14, k15, k16, l0, l1, l2, l3, kb]; exact wo_m01 h
  · -- tm
    simp only [nC, nS, nF, nR, k0, k3, k4, k5, k6, k7, k8, k9, k11, k12, k13, k14, k15, k16, l0, l1, l2, l3, kb]; exact wo_tm h
  · -- bst
    simp only [nC, nS, nF, nR, k0, k3, k4, k5, k6, k7, k8, k9, k11, k12, k13, k14, k15, k16, l0, l1, l2, l3, kb]; exact wo_bst h
  · -- tri
    simp only [nC, nS, nF, nR, k0, k3, k4, k5, k6, k7, k8, k9, k11, k12, k13, k14, k15, k16, l0, l1, l2, l3, kb]; exact wo_tri h
  · -- trd
    simp only [nC, nS, nF, nR, k0, k3, k4, k5, k6, k7, k8, k9, k11, k12, k13, k14, k15, k16, l0, l1, l2, l3, kb]; exact wo_trd h
  · -- bsq
    simp only [nC, nS, nF, nR, k0, k3, k4, k5, k6, k7, k8, k9, k11, k12, k13, k14, k15, k16, l0, l1, l2, l3, kb]; exact wo_bsq h
  · -- far
    simp only [nC, nS, nF, nR, k0, k3, k4, k5, k6, k7, k8, k9, k11, k12, k13, k14, k15, k16, l0, l1, l2, l3, kb]; exact wo_far h
  · -- dep
    simp only [nC, nS, nF, nR, k0, k3, k4, k5, k6, k7, k8, k9, k11, k12, k13, k14, k15, k16, l0, l1, l2, l3, kb]; exact wo_dep h
  · -- dp0
    simp only [nC, nS, nF, nR, k0, k3, k4, k5, k6, k7, k8, k9, k11, k12, k13, k14, k15, k16, l0, l1, l2, l3, kb]; exact wo_dp0 h
  · -- fk
    simp only [nC, nS, nF, nR, k0, k3, k4, k5, k6, k7, k8, k9, k11, k12, k13, k14, k15, k16, l0, l1, l2, l3, kb]; exact wo_fk h
  · -- f0
    simp only [nC, nS, nF, nR, k0, k3, k4, k5, k6, k7, k8, k9, k11, k12, k13, k14, k15, k16, l0, l1, l2, l3, kb]; exact wo_f0 h
  · -- f1
    simp only [nC, nS, nF, nR, k0, k3, k4, k5, k6, k7, k8, k9, k11, k12, k13, k14, k15, k16, l0, l1, l2, l3, kb]; exact wo_f1 h
  · -- f2
    simp only [nC, nS, nF, nR, k0, k3, k4, k5, k6, k7, k8, k9, k11, k12, k13, k14, k15, k16, l0, l1, l2, l3, kb]; exact wo_f2 h
  · -- f3
    simp only [nC, nS, nF, nR, k0, k3, k4, k5, k6, k7, k8, k9, k11, k12, k13, k14, k15, k16, l0, l1, l2, l3, kb]; exact wo_f3 h
  · -- f4
    simp only [nC, nS, nF, nR, k0, k3, k4, k5, k6, k7, k8, k9, k11, k12, k13, k14, k15, k16, l0, l1, l2, l3, kb]; exact wo_f4 h
  · -- rul
    simp only [nC, nS, nF, nR, k0, k3, k4, k5, k6, k7, k8, k9, k11, k12, k13, k14, k15, k16, l0, l1, l2, l3, kb]; exact wo_rul h
  · -- r01
    simp only [nC, nS, nF, nR, k0, k3, k4, k5, k6, k7, k8, k9, k11, k12, k13, k14, k15, k16, l0, l1, l2, l3, kb]; exact wo_r01 h
  · -- rm4
    simp only [nC, nS, nF, nR, k0, k3, k4, k5, k6, k7, k8, k9, k11, k12, k13, k14, k15, k16, l0, l1, l2, l3, kb]; exact wo_rm4 h
  · -- tk3
    simp only [nC, nS, nF, nR, k0, k3, k4, k5, k6, k7, k8, k9, k11, k12, k13, k14, k15, k16, l0, l1, l2, l3, kb]; exact wo_tk3 h
  · -- w6
    intro c2 h2 hd; simp only [nC, l0] at h2; rw [k0] at hd; have q := wo_w6 h c2 h2 hd; have q2 := wo_w6 h c hc hd; omega
  · -- wt3
    intro c2 j h2 hj; simp only [nC, l0] at h2; obtain ⟨j2, a1, a2⟩ := lv_a X c k c2 j hk hj; rw [a2, k9]; exact wo_wt3 h c2 j2 h2 a1
  · -- deg
    simp only [nC, nS, nF, nR, k0, k3, k4, k5, k6, k7, k8, k9, k11, k12, k13, k14, k15, k16, l0, l1, l2, l3, kb]; exact wo_deg h
  · -- f7
    simp only [nC, nS, nF, nR, k0, k3, k4, k5, k6, k7, k8, k9, k11, k12, k13, k14, k15, k16, l0, l1, l2, l3, kb]; exact wo_f7 h
theorem wv_lv {ν : Nat → Nat → Bool} {X : XM} (hW : WX ν X) {c k : Nat} (hc : (c : Int) < nC X) (hk : (k : Int) < X 1 (4 + c) 2) : WV ν (lv X c k) := by
  have h := hW.2
  have l0 : lv X c k 1 0 = X 1 0 := lv_ne (by omega)
  have l1 : lv X c k 1 1 = X 1 1 := lv_ne (by omega)
  have l2 : lv X c k 1 2 = X 1 2 := lv_ne (by omega)
  have l3 : lv X c k 1 3 = X 1 3 := lv_ne (by omega)
  have li : ∀ i, i < 4 → ∀ kk, lv X c k kk i = X kk i := fun i hi kk => lv_ne (by omega)
  have w1 : ∀ c', lv X c k 1 (4 + c') 1 = X 1 (4 + c') 1 := fun c' => by
    by_cases e : c' = c
    · subst e; rw [lv_1]; rfl
    · rw [lv_ne (by omega)]
  have w0 : ∀ i, lv X c k 2 i 0 = X 2 i 0 := fun i => by
    by_cases e : i = 4 + c
    · subst e; rw [lv_2, if_neg (by omega), if_neg (by omega)]
    · rw [lv_ne e]
  refine ⟨?_, ?_, ?_, ?_, ?_, ?_, ?_, ?_, ?_, ?_, ?_, trivial⟩
  · simp only [nS, l1]; exact wv_stu h
  · exact wv_new h
  · simp only [nC, l0]; exact wv_crs h
  · simp only [nR, l3]; exact wv_rul h
  · simp only [nF, l2]; exact wv_frm h
  · intro i hi; rw [li i hi, li i hi]; exact wv_lst h i hi
  · intro i hi; rw [li i hi]; exact wv_ls0 h i hi
  · intro i j hi; rw [li i hi, li i hi]; exact wv_le h i j hi
  · intro c' hc' he
    simp only [nC, l0] at hc'
    rw [w1] at he
    rw [w0, lv_n]
    have q := wv_wst h c' hc' he
    refine ⟨q.1, ?_⟩
    split
    · rename_i e; subst e; omega
    · exact q.2
  · intro c' hc' he
    simp only [nC, l0] at hc'
    rw [w1] at he
    rw [lv_n]
    have q := wv_ws0 h c' hc' he
    split
    · rename_i e; subst e; omega
    · exact q
  · intro i; rw [w0]; exact wv_cap h i
set_option maxHeartbeats 2000000 in
theorem wo_t1 {X : XM} (h : WO X) {s c : Nat} (hs : (s : Int) < nS X) (hc : (c : Int) < nC X) (ht : X 9 s c ≤ 2) : WO (xs X 5 s c 1) := by
  have m1 : xs X 5 s c 1 1 = X 1 := xs_nk (by decide)
  have m2 : xs X 5 s c 1 2 = X 2 := xs_nk (by decide)
  have k0 : (xs X 5 s c 1) 0 = X 0 := xs_nk (by decide)
  have k3 : (xs X 5 s c 1) 3 = X 3 := xs_nk (by decide)
  have k4 : (xs X 5 s c 1) 4 = X 4 := xs_nk (by decide)
  have k6 : (xs X 5 s c 1) 6 = X 6 := xs_nk (by decide)
  have k7 : (xs X 5 s c 1) 7 = X 7 := xs_nk (by decide)
  have k8 : (xs X 5 s c 1) 8 = X 8 := xs_nk (by decide)
  have k9 : (xs X 5 s c 1) 9 = X 9 := xs_nk (by decide)
  have k11 : (xs X 5 s c 1) 11 = X 11 := xs_nk (by decide)
  have k12 : (xs X 5 s c 1) 12 = X 12 := xs_nk (by decide)
  have k13 : (xs X 5 s c 1) 13 = X 13 := xs_nk (by decide)
  have k14 : (xs X 5 s c 1) 14 = X 14 := xs_nk (by decide)
  have k15 : (xs X 5 s c 1) 15 = X 15 := xs_nk (by decide)
  have k16 : (xs X 5 s c 1) 16 = X 16 := xs_nk (by decide)
  have l0 : (xs X 5 s c 1) 1 0 2 = X 1 0 2 := by rw [xs_nk (by decide)]
  have l1 : (xs X 5 s c 1) 1 1 2 = X 1 1 2 := by rw [xs_nk (by decide)]
  have l2 : (xs X 5 s c 1) 1 2 2 = X 1 2 2 := by rw [xs_nk (by decide)]
  have l3 : (xs X 5 s c 1) 1 3 2 = X 1 3 2 := by rw [xs_nk (by decide)]
  have kb : bsT (xs X 5 s c 1) = bsT X := bsT_cg k6 k11
  refine ⟨?_, ?_, ?_, ?_, ?_, ?_, ?_, ?_, ?_, ?_, ?_, ?_, ?_, ?_, ?_, ?_, ?_, ?_, ?_, ?_, ?_, ?_, ?_, ?_, ?_, ?_, ?_, ?_, ?_, ?_, ?_, ?_, ?_, ?_, ?_, ?_, ?_, trivial⟩
  · -- nC
    simp only [nC, nS, nF, nR, k0, k3, k4, k6, k7, k8, k9, k11, k12, k13, k14, k15, k16, l0, l1, l2, l3, kb]; exact wo_nC h
  · -- nS
    simp only [nC, nS, nF, nR, k0, k3, k4, k6, k7, k8, k9, k11, k12, k13, k14, k15, k16, l0, l1, l2, l3, kb]; exact wo_nS h
  · -- nF
    simp only [nC, nS, nF, nR, k0, k3, k4, k6, k7, k8, k9, k11, k12, k13, k14, k15, k16, l0, l1, l2, l3, kb]; exact wo_nF h
  · -- nR
    simp only [nC, nS, nF, nR, k0, k3, k4, k6, k7, k8, k9, k11, k12, k13, k14, k15, k16, l0, l1, l2, l3, kb]; exact wo_nR h
  · -- day
    simp only [nC, nS, nF, nR, k0, k3, k4, k6, k7, k8, k9, k11, k12, k13, k14, k15, k16, l0, l1, l2, l3, kb]; exact wo_day h
  · -- term
    simp only [nC, nS, nF, nR, k0, k3, k4, k6, k7, k8, k9, k11, k12, k13, k14, k15, k16, l0, l1, l2, l3, kb]; exact wo_term h
  · -- crd
    simp only [nC, nS, nF, nR, k0, k3, k4, k6, k7, k8, k9, k11, k12, k13, k14, k15, k16, l0, l1, l2, l3, kb]; exact wo_crd h
  · -- sea
    simp only [nC, nS, nF, nR, k0, k3, k4, k6, k7, k8, k9, k11, k12, k13, k14, k15, k16, l0, l1, l2, l3, kb]; exact wo_sea h
  · -- req
    simp only [nC, nS, nF, nR, k0, k3, k4, k6, k7, k8, k9, k11, k12, k13, k14, k15, k16, l0, l1, l2, l3, kb]; exact wo_req h
  · -- res
    simp only [nC, nS, nF, nR, k0, k3, k4, k6, k7, k8, k9, k11, k12, k13, k14, k15, k16, l0, l1, l2, l3, kb]; exact wo_res h
  · -- wN
    simp only [nC, nS, nF, nR, k0, k3, k4, k6, k7, k8, k9, k11, k12, k13, k14, k15, k16, l0, l1, l2, l3, kb]; exact wo_wN h
  · -- wA
    simp only [nC, nS, nF, nR, k0, k3, k4, k6, k7, k8, k9, k11, k12, k13, k14, k15, k16, l0, l1, l2, l3, kb]; exact wo_wA h
  · -- maj
    simp only [nC, nS, nF, nR, k0, k3, k4, k6, k7, k8, k9, k11, k12, k13, k14, k15, k16, l0, l1, l2, l3, kb]; exact wo_maj h
  · -- t01
    intro s2 c2 h2; rw [xs_all]; split <;> (first | (right; rfl) | exact wo_t01 h s2 c2 h2)
  · -- m01
    simp only [nC, nS, nF, nR, k0, k3, k4, k6, k7, k8, k9, k11, k12, k13, k14, k15, k16, l0, l1, l2, l3, kb]; exact wo_m01 h
  · -- tm
    simp only [nC, nS, nF, nR, k0, k3, k4, k6, k7, k8, k9, k11, k12, k13, k14, k15, k16, l0, l1, l2, l3, kb]; exact wo_tm h
  · -- bst
    simp only [nC, nS, nF, nR, k0, k3, k4, k6, k7, k8, k9, k11, k12, k13, k14, k15, k16, l0, l1, l2, l3, kb]; exact wo_bst h
  · -- tri
    simp only [nC, nS, nF, nR, k0, k3, k4, k6, k7, k8, k9, k11, k12, k13, k14, k15, k16, l0, l1, l2, l3, kb]; exact wo_tri h
  · -- trd
    simp only [nC, nS, nF, nR, k0, k3, k4, k6, k7, k8, k9, k11, k12, k13, k14, k15, k16, l0, l1, l2, l3, kb]; exact wo_trd h
  · -- bsq
    simp only [nC, nS, nF, nR, k0, k3, k4, k6, k7, k8, k9, k11, k12, k13, k14, k15, k16, l0, l1, l2, l3, kb]; exact wo_bsq h
  · -- far
    intro s2 c2 h2 h3 h4; simp only [nC, nS, l0, l1, k6, k9] at *; have q := wo_far h s2 c2 h2 h3 h4; rw [xs_all, if_neg (by omega)]; exact q
  · -- dep
    simp only [nC, nS, nF, nR, k0, k3, k4, k6, k7, k8, k9, k11, k12, k13, k14, k15, k16, l0, l1, l2, l3, kb]; exact wo_dep h
  · -- dp0
    simp only [nC, nS, nF, nR, k0, k3, k4, k6, k7, k8, k9, k11, k12, k13, k14, k15, k16, l0, l1, l2, l3, kb]; exact wo_dp0 h
  · -- fk
    simp only [nC, nS, nF, nR, k0, k3, k4, k6, k7, k8, k9, k11, k12, k13, k14, k15, k16, l0, l1, l2, l3, kb]; exact wo_fk h
  · -- f0
    simp only [nC, nS, nF, nR, k0, k3, k4, k6, k7, k8, k9, k11, k12, k13, k14, k15, k16, l0, l1, l2, l3, kb]; exact wo_f0 h
  · -- f1
    simp only [nC, nS, nF, nR, k0, k3, k4, k6, k7, k8, k9, k11, k12, k13, k14, k15, k16, l0, l1, l2, l3, kb]; exact wo_f1 h
  · -- f2
    simp only [nC, nS, nF, nR, k0, k3, k4, k6, k7, k8, k9, k11, k12, k13, k14, k15, k16, l0, l1, l2, l3, kb]; exact wo_f2 h
  · -- f3
    simp only [nC, nS, nF, nR, k0, k3, k4, k6, k7, k8, k9, k11, k12, k13, k14, k15, k16, l0, l1, l2, l3, kb]; exact wo_f3 h
  · -- f4
    simp only [nC, nS, nF, nR, k0, k3, k4, k6, k7, k8, k9, k11, k12, k13, k14, k15, k16, l0, l1, l2, l3, kb]; exact wo_f4 h
  · -- rul
    simp only [nC, nS, nF, nR, k0, k3, k4, k6, k7, k8, k9, k11, k12, k13, k14, k15, k16, l0, l1, l2, l3, kb]; exact wo_rul h
  · -- r01
    simp only [nC, nS, nF, nR, k0, k3, k4, k6, k7, k8, k9, k11, k12, k13, k14, k15, k16, l0, l1, l2, l3, kb]; exact wo_r01 h
  · -- rm4
    simp only [nC, nS, nF, nR, k0, k3, k4, k6, k7, k8, k9, k11, k12, k13, k14, k15, k16, l0, l1, l2, l3, kb]; exact wo_rm4 h
  · -- tk3
    intro s2 c2 h2 h3 h4; simp only [nS, l1, k9] at *; rw [xs_all] at h4; by_cases e : 5 = 5 ∧ s2 = s ∧ c2 = c; (rw [e.2.1, e.2.2]; exact ht); (rw [if_neg e] at h4; exact wo_tk3 h s2 c2 h2 h3 h4)
  · -- w6
    simp only [nC, nS, nF, nR, k0, k3, k4, k6, k7, k8, k9, k11, k12, k13, k14, k15, k16, l0, l1, l2, l3, kb]; exact wo_w6 h
  · -- wt3
    simp only [nC, nS, nF, nR, k0, k3, k4, k6, k7, k8, k9, k11, k12, k13, k14, k15, k16, l0, l1, l2, l3, kb]; exact wo_wt3 h
  · -- deg
    simp only [nC, nS, nF, nR, k0, k3, k4, k6, k7, k8, k9, k11, k12, k13, k14, k15, k16, l0, l1, l2, l3, kb]; exact wo_deg h
  · -- f7
    simp only [nC, nS, nF, nR, k0, k3, k4, k6, k7, k8, k9, k11, k12, k13, k14, k15, k16, l0, l1, l2, l3, kb]; exact wo_f7 h
theorem wv_t1 {ν : Nat → Nat → Bool} {X : XM} (h : WV ν X) (s c : Nat) (v : Int) : WV ν (xs X 5 s c v) := by
  have m1 : xs X 5 s c v 1 = X 1 := xs_nk (by decide)
  have m2 : xs X 5 s c v 2 = X 2 := xs_nk (by decide)
  unfold WV nS nC nR nF
  rw [m1, m2]
  exact h
/-- the k-th of the list of course c takes a seat -/
def seat (X : XM) (c k : Nat) : XM := lv (xs X 5 (X 2 (4 + c) (k + 1)).toNat c 1) c k
theorem wx_seat {ν : Nat → Nat → Bool} {X : XM} (hW : WX ν X) {c k : Nat} (hc : (c : Int) < nC X) (hk : (k : Int) < X 1 (4 + c) 2) : WX ν (seat X c k) := by
  have m1 : xs X 5 (X 2 (4 + c) (k + 1)).toNat c 1 1 = X 1 := xs_nk (by decide)
  have q := wo_wA hW.1 c k hc hk
  have w1 : WX ν (xs X 5 (X 2 (4 + c) (k + 1)).toNat c 1) := ⟨wo_t1 hW.1 (by omega) hc (wo_wt3 hW.1 c k hc hk), wv_t1 hW.2 _ _ _⟩
  have c1 : (c : Int) < nC (xs X 5 (X 2 (4 + c) (k + 1)).toNat c 1) := by unfold nC; rw [m1]; exact hc
  have k1 : (k : Int) < xs X 5 (X 2 (4 + c) (k + 1)).toNat c 1 1 (4 + c) 2 := by rw [m1]; exact hk
  exact ⟨wo_lv w1.1 c1 k1, wv_lv w1 c1 k1⟩
/-- who takes a seat first: in a course, of all courses -/
def fk (X : XM) (c : Nat) : Nat → Option Nat
  | 0 => none
  | n + 1 => match fk X c n with
    | some k => some k
    | none => if canT X (X 2 (4 + c) (n + 1)).toNat c = true then some n else none
def fc (X : XM) : Nat → Option (Nat × Nat)
  | 0 => none
  | n + 1 => match fc X n with
    | some p => some p
    | none => (fk X n (X 1 (4 + n) 2).toNat).map (fun k => (n, k))
def fstW (X : XM) : Option (Nat × Nat) := fc X (nC X).toNat
def gvN : Nat → XM → XM
  | 0, X => X
  | n + 1, X => match fstW X with
    | none => X
    | some p => gvN n (seat X p.1 p.2)
def gv (X : XM) : XM := if 5 < X 0 0 5 then X else gvN 121 X
/-- how many wait -/
def twS (X : XM) : Nat → Int
  | 0 => 0
  | n + 1 => twS X n + X 1 (4 + n) 2
def tw (X : XM) : Int := twS X (nC X).toNat
theorem twS_0 {X : XM} (h : WO X) : ∀ n : Nat, (n : Int) ≤ nC X → 0 ≤ twS X n ∧ twS X n ≤ 6 * n
  | 0, _ => ⟨Int.le_refl 0, Int.le_refl 0⟩
  | n + 1, hn => by
    have h1 := twS_0 h n (by omega)
    have h2 := wo_wN h n (by omega)
    show 0 ≤ twS X n + X 1 (4 + n) 2 ∧ twS X n + X 1 (4 + n) 2 ≤ 6 * ((n + 1 : Nat) : Int)
    omega
theorem tw_0 {X : XM} (h : WO X) : 0 ≤ tw X ∧ tw X ≤ 120 := by
  have h1 := wo_nC h
  have h2 := twS_0 h (nC X).toNat (by omega)
  unfold tw
  omega
theorem seat_n (X : XM) (c k c' : Nat) : seat X c k 1 (4 + c') 2 = if c' = c then X 1 (4 + c) 2 - 1 else X 1 (4 + c') 2 := by
  unfold seat
  rw [lv_n, xs_nk (by decide)]
theorem seat_l (X : XM) (c k : Nat) {i : Nat} (hi : i < 4) : seat X c k 1 i 2 = X 1 i 2 := by
  unfold seat
  rw [lv_ne (by omega), xs_nk (by decide)]
theorem twS_seat (X : XM) (c k : Nat) : ∀ n, twS (seat X c k) n = twS X n - (if c < n then 1 else 0)
  | 0 => by simp [twS]
  | n + 1 => by
    rw [twS, twS, twS_seat X c k n, seat_n]
    by_cases e : n = c
    · subst e; rw [if_pos rfl, if_neg (by omega), if_pos (by omega)]; omega
    · rw [if_neg e]
      by_cases q : c < n
      · rw [if_pos q, if_pos (by omega)]; omega
      · rw [if_neg q, if_neg (by omega)]; omega
theorem tw_seat {X : XM} (c k : Nat) (hc : (c : Int) < nC X) : tw (seat X c k) = tw X - 1 := by
  unfold tw
  rw [show nC (seat X c k) = nC X from seat_l X c k (by omega), twS_seat, if_pos (by omega)]
theorem fk_lt {X : XM} {c : Nat} : ∀ {n k : Nat}, fk X c n = some k → k < n ∧ canT X (X 2 (4 + c) (k + 1)).toNat c = true
  | 0, k, h => by cases h
  | n + 1, k, h => by
    unfold fk at h
    cases e : fk X c n with
    | some k2 =>
      rw [e] at h
      cases h
      have q := fk_lt e
      exact ⟨by omega, q.2⟩
    | none =>
      rw [e] at h
      by_cases q : canT X (X 2 (4 + c) (n + 1)).toNat c = true
      · simp only [q, if_true] at h
        cases h
        exact ⟨by omega, q⟩
      · simp [q] at h
theorem fc_lt {X : XM} : ∀ {n : Nat} {p : Nat × Nat}, fc X n = some p → p.1 < n ∧ (p.2 : Int) < X 1 (4 + p.1) 2 ∧ canT X (X 2 (4 + p.1) (p.2 + 1)).toNat p.1 = true
  | 0, p, h => by cases h
  | n + 1, p, h => by
    unfold fc at h
    cases e : fc X n with
    | some p2 =>
      rw [e] at h
      cases h
      have q := fc_lt e
      exact ⟨by omega, q.2⟩
    | none =>
      rw [e] at h
      obtain ⟨k, h1, h2⟩ := Option.map_eq_some_iff.mp h
      subst h2
      have q := fk_lt h1
      exact ⟨by show n < n + 1; omega, by show (k : Int) < X 1 (4 + n) 2; omega, q.2⟩
theorem fst_lt {X : XM} (hO : WO X) {p : Nat × Nat} (h : fstW X = some p) : (p.1 : Int) < nC X ∧ (p.2 : Int) < X 1 (4 + p.1) 2 ∧ canT X (X 2 (4 + p.1) (p.2 + 1)).toNat p.1 = true := by
  have h1 := wo_nC hO
  have q := fc_lt h
  exact ⟨by omega, q.2⟩
theorem bitsE_set {z : Int} {f : Nat → Int} (h : bitsE z f) {c : Nat} (hc : c < 20) {f2 : Nat → Int} (h1 : f2 c ≠ 0) (h2 : ∀ j, j ≠ c → f2 j = f j) : bitsE ((z.toNat ||| 1 <<< c : Nat) : Int) f2 := by
  obtain ⟨a1, a2, a3⟩ := h
  have hlt : z.toNat < 2 ^ 20 := by omega
  have hp : 1 <<< c < 2 ^ 20 := by rw [Nat.shiftLeft_eq, Nat.one_mul]; exact Nat.pow_lt_pow_right (by omega) hc
  have ho := Nat.or_lt_two_pow hlt hp
  refine ⟨by omega, by omega, fun j hj => ?_⟩
  rw [Int.toNat_natCast, Nat.testBit_or, a3 j hj, Nat.shiftLeft_eq, Nat.one_mul, Nat.testBit_two_pow]
  by_cases e : j = c
  · subst e; simp [h1]
  · rw [h2 j e]; simp [show ¬ c = j from fun z => e z.symm]
