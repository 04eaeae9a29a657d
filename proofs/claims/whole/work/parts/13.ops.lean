/-! THE CALLS as changes of the memory: leaving a list, taking a seat, giving seats out -/
/-- a number as the machine keeps it -/
def wr (z : Int) : Int := (J z).toInt
theorem J_wr (z : Int) : J z = J (wr z) := (J_of (J z)).symm
theorem R31_wr (z : Int) : R31 (wr z) := R31_of (J z)
/-- a whole cell new -/
def xw (X : XM) (k i : Nat) (x : Nat → Int) : XM := fun k' i' => if k' = k ∧ i' = i then x else X k' i'
theorem xw_at (X : XM) (k i : Nat) (x : Nat → Int) : xw X k i x k i = x := if_pos ⟨rfl, rfl⟩
theorem xw_ne {X : XM} {k i : Nat} {x : Nat → Int} {k' i' : Nat} (h : ¬ (k' = k ∧ i' = i)) : xw X k i x k' i' = X k' i' := if_neg h
theorem bsT_cg {X X' : XM} (h6 : X' 6 = X 6) (h11 : X' 11 = X 11) : bsT X' = bsT X := by
  funext s c k
  induction k with
  | zero => show (if mvd X' s c = true then (50 : Int) else -1) = (if mvd X s c = true then (50 : Int) else -1); unfold mvd; rw [h6]
  | succ k ih => show (if bsT X' s c k < X' 11 (20 * s + c) k then X' 11 (20 * s + c) k else bsT X' s c k) = _; rw [ih, h11]; rfl
/-- the k-th of the list of course c leaves it (as the class's list does it) -/
def lv (X : XM) (c k : Nat) : XM := fun kk i =>
  if kk = 1 ∧ i = 4 + c then (fun j => if j = 0 then wr (X 1 (4 + c) 0 + 1) else if j = 2 then X 1 (4 + c) 2 - 1 else X 1 (4 + c) j)
  else if kk = 2 ∧ i = 4 + c then (fun j => if j = (X 1 (4 + c) 2).toNat then -1 else if k + 1 ≤ j ∧ j < (X 1 (4 + c) 2).toNat then X 2 (4 + c) (j + 1) else X 2 (4 + c) j)
  else X kk i
theorem lv_k {X : XM} {c k kk : Nat} (h1 : kk ≠ 1) (h2 : kk ≠ 2) : lv X c k kk = X kk := funext fun i => by
  show (if _ then _ else if _ then _ else _) = _
  rw [if_neg (fun z => h1 z.1), if_neg (fun z => h2 z.1)]
theorem lv_ne {X : XM} {c k kk i : Nat} (h : i ≠ 4 + c) : lv X c k kk i = X kk i := by
  show (if _ then _ else if _ then _ else _) = _
  rw [if_neg (fun z => h z.2), if_neg (fun z => h z.2)]
theorem lv_1 (X : XM) (c k j : Nat) : lv X c k 1 (4 + c) j = if j = 0 then wr (X 1 (4 + c) 0 + 1) else if j = 2 then X 1 (4 + c) 2 - 1 else X 1 (4 + c) j := by
  unfold lv
  rw [if_pos ⟨rfl, rfl⟩]
theorem lv_2 (X : XM) (c k j : Nat) : lv X c k 2 (4 + c) j = if j = (X 1 (4 + c) 2).toNat then -1 else if k + 1 ≤ j ∧ j < (X 1 (4 + c) 2).toNat then X 2 (4 + c) (j + 1) else X 2 (4 + c) j := by
  unfold lv
  rw [if_neg (by omega), if_pos ⟨rfl, rfl⟩]
theorem lv_n (X : XM) (c k c' : Nat) : lv X c k 1 (4 + c') 2 = if c' = c then X 1 (4 + c) 2 - 1 else X 1 (4 + c') 2 := by
  by_cases e : c' = c
  · subst e; rw [lv_1, if_pos rfl, if_neg (by decide), if_pos rfl]
  · rw [lv_ne (by omega), if_neg e]
/-- where an element of a list lay before -/
theorem lv_a (X : XM) (c k c' j : Nat) (hk : (k : Int) < X 1 (4 + c) 2) (hj : (j : Int) < lv X c k 1 (4 + c') 2) : ∃ j' : Nat, (j' : Int) < X 1 (4 + c') 2 ∧ lv X c k 2 (4 + c') (j + 1) = X 2 (4 + c') (j' + 1) := by
  rw [lv_n] at hj
  by_cases e : c' = c
  · subst e
    rw [if_pos rfl] at hj
    rw [lv_2, if_neg (by omega)]
    by_cases q : k + 1 ≤ j + 1 ∧ j + 1 < (X 1 (4 + c') 2).toNat
    · exact ⟨j + 1, by omega, by rw [if_pos q]⟩
    · exact ⟨j, by omega, by rw [if_neg q]⟩
  · rw [if_neg e] at hj
    exact ⟨j, hj, by rw [lv_ne (by omega)]⟩
set_option maxHeartbeats 2000000 in
theorem wo_lv {X : XM} (h : WO X) {c k : Nat} (hc : (c : Int) < nC X) (hk : (k : Int) < X 1 (4 + c) 2) : WO (lv X c k) := by
  have k0 : (lv X c k) 0 = X 0 := lv_k (by decide) (by decide)
  have k3 : (lv X c k) 3 = X 3 := lv_k (by decide) (by decide)
  have k4 : (lv X c k) 4 = X 4 := lv_k (by decide) (by decide)
  have k5 : (lv X c k) 5 = X 5 := lv_k (by decide) (by decide)
  have k6 : (lv X c k) 6 = X 6 := lv_k (by decide) (by decide)
  have k7 : (lv X c k) 7 = X 7 := lv_k (by decide) (by decide)
  have k8 : (lv X c k) 8 = X 8 := lv_k (by decide) (by decide)
  have k9 : (lv X c k) 9 = X 9 := lv_k (by decide) (by decide)
  have k11 : (lv X c k) 11 = X 11 := lv_k (by decide) (by decide)
  have k12 : (lv X c k) 12 = X 12 := lv_k (by decide) (by decide)
  have k13 : (lv X c k) 13 = X 13 := lv_k (by decide) (by decide)
  have k14 : (lv X c k) 14 = X 14 := lv_k (by decide) (by decide)
  have k15 : (lv X c k) 15 = X 15 := lv_k (by decide) (by decide)
  have k16 : (lv X c k) 16 = X 16 := lv_k (by decide) (by decide)
  have l0 : (lv X c k) 1 0 2 = X 1 0 2 := by rw [lv_ne (by omega)]
  have l1 : (lv X c k) 1 1 2 = X 1 1 2 := by rw [lv_ne (by omega)]
  have l2 : (lv X c k) 1 2 2 = X 1 2 2 := by rw [lv_ne (by omega)]
  have l3 : (lv X c k) 1 3 2 = X 1 3 2 := by rw [lv_ne (by omega)]
  have kb : bsT (lv X c k) = bsT X := bsT_cg k6 k11
  refine ⟨?_, ?_, ?_, ?_, ?_, ?_, ?_, ?_, ?_, ?_, ?_, ?_, ?_, ?_, ?_, ?_, ?_, ?_, ?_, ?_, ?_, ?_, ?_, ?_, ?_, ?_, ?_, ?_, ?_, ?_, ?_, ?_, ?_, ?_, ?_, ?_, trivial⟩
  · -- nC
    simp only [nC, nS, nF, nR, k0, k3, k4, k5, k6, k7, k8, k9, k11, k12, k13, k14, k15, k16, l0, l1, l2, l3, kb]; exact wo_nC h
  · -- nS
    simp only [nC, nS, nF, nR, k0, k3, k4, k5, k6, k7, k8, k9, k11, k12, k13, k14, k15, k16, l0, l1, l2, l3, kb]; exact wo_nS h
  · -- nF
    simp only [nC, nS, nF, nR, k0, k3, k4, k5, k6, k7, k8, k9, k11, k12, k13, k14, k15, k16, l0, l1, l2, l3, kb]; exact wo_nF h
  · -- nR
    simp only [nC, nS, nF, nR, k0, k3, k4, k5, k6, k7, k8, k9, k11, k12, k13, k14, k15, k16, l0, l1, l2, l3, kb]; exact wo_nR h
  · -- day
    simp only [nC, nS, nF, nR, k0, k3, k4, k5, k6, k7, k8, k9, k11, k12, k13, k14, k15, k16, l0, l1, l2, l3, kb]; exact wo_day h
  · -- term
    simp only [nC, nS, nF, nR, k0, k3, k4, k5, k6, k7, k8, k9, k11, k12, k13, k14, k15, k16, l0, l1, l2, l3, kb]; exact wo_term h
  · -- crd
    simp only [nC, nS, nF, nR, k0, k3, k4, k5, k6, k7, k8, k9, k11, k12, k13, k14, k15, k16, l0, l1, l2, l3, kb]; exact wo_crd h
  · -- sea
    simp only [nC, nS, nF, nR, k0, k3, k4, k5, k6, k7, k8, k9, k11, k12, k13, k14, k15, k16, l0, l1, l2, l3, kb]; exact wo_sea h
  · -- req
    simp only [nC, nS, nF, nR, k0, k3, k4, k5, k6, k7, k8, k9, k11, k12, k13, k14, k15, k16, l0, l1, l2, l3, kb]; exact wo_req h
  · -- res
    simp only [nC, nS, nF, nR, k0, k3, k4, k5, k6, k7, k8, k9, k11, k12, k13, k14, k15, k16, l0, l1, l2, l3, kb]; exact wo_res h
  · -- wN
    intro c2 h2; simp only [nC, l0] at h2; have q := wo_wN h c2 h2; rw [lv_n]; split <;> (first | omega | (rename_i e; subst e; omega))
  · -- wA
    intro c2 j h2 hj; simp only [nC, nS, l0, l1] at *; obtain ⟨j2, a1, a2⟩ := lv_a X c k c2 j hk hj; rw [a2]; exact wo_wA h c2 j2 h2 a1
  · -- maj
    simp only [nC, nS, nF, nR, k0, k3, k4, k5, k6, k7, k8, k9, k11, k12, k13, k14, k15, k16, l0, l1, l2, l3, kb]; exact wo_maj h
  · -- t01
    simp only [nC, nS, nF, nR, k0, k3, k4, k5, k6, k7, k8, k9, k11, k12, k13, k14, k15, k16, l0, l1, l2, l3, kb]; exact wo_t01 h
  · -- m01
    simp only [nC, nS, nF, nR, k0, k3, k4, k5, k6, k7, k8, k9, k11, k12, k13, k14, k15, k16, l0, l1, l2, l3, kb]; exact wo_m01 h
  · -- tm
    simp only [nC, nS, nF, nR, k0, k3, k4, k5, k6, k7, k8, k9, k11, k12, k13, k14, k15, k16, l0, l1, l2, l3, kb]; exact wo_tm h
  · -- bst
    simp only [nC, nS, nF, nR, k0, k3, k4, k5, k6, k7, k8, k9, k11, k12, k13, k14, k15, k16, l0, l1, l2, l3, kb]; exact wo_bst h
  · -- tri
    simp only [nC, nS, nF, nR, k0, k3, k4, k5, k6, k7, k8, k9, k11, k12, k13, k14, k15, k16, l0, l1, l2, l3, kb]; exact wo_tri h
  · -- trd
    simp only [nC, nS, nF, nR, k0, k3, k4, k5, k6, k7, k8, k9, k11, k12, k13, k14, k15, k16, l0, l1, l2, l3, kb]; exact wo_trd h
  · -- bsq
    simp only [nC, nS, nF, nR, k0, k3, k4, k5, k6, k7, k8, k9, k11, k12, k13, k14, k15, k16, l0, l1, l2, l3, kb]; exact wo_bsq h
  · -- far
    simp only [nC, nS, nF, nR, k0, k3, k4, k5, k6, k7, k8, k9, k11, k12, k13, k14, k15, k16, l0, l1, l2, l3, kb]; exact wo_far h
  · -- dep
    simp only [nC, nS, nF, nR, k0, k3, k4, k5, k6, k7, k8, k9, k11, k12, k13, k14, k15, k16, l0, l1, l2, l3, kb]; exact wo_dep h
  · -- dp0
    simp only [nC, nS, nF, nR, k0, k3, k4, k5, k6, k7, k8, k9, k11, k12, k13, k14, k15, k16, l0, l1, l2, l3, kb]; exact wo_dp0 h
  · -- fk
    simp only [nC, nS, nF, nR, k0, k3, k4, k5, k6, k7, k8, k9, k11, k12, k13, k14, k15, k16, l0, l1, l2, l3, kb]; exact wo_fk h
  · -- f0
    simp only [nC, nS, nF, nR, k0, k3, k4, k5, k6, k7, k8, k9, k11, k12, k13, k14, k15, k16, l0, l1, l2, l3, kb]; exact wo_f0 h
  · -- f1
    simp only [nC, nS, nF, nR, k0, k3, k4, k5, k6, k7, k8, k9, k11, k12, k13, k14, k15, k16, l0, l1, l2, l3, kb]; exact wo_f1 h
  · -- f2
    simp only [nC, nS, nF, nR, k0, k3, k4, k5, k6, k7, k8, k9, k11, k12, k13, k14, k15, k16, l0, l1, l2, l3, kb]; exact wo_f2 h
  · -- f3
    simp only [nC, nS, nF, nR, k0, k3, k4, k5, k6, k7, k8, k9, k11, k12, k13, k14, k15, k16, l0, l1, l2, l3, kb]; exact wo_f3 h
  · -- f4
    simp only [nC, nS, nF, nR, k0, k3, k4, k5, k6, k7, k8, k9, k11, k12, k13, k14, k15, k16, l0, l1, l2, l3, kb]; exact wo_f4 h
  · -- rul
    simp only [nC, nS, nF, nR, k0, k3, k4, k5, k6, k7, k8, k9, k11, k12, k13, k14, k15, k16, l0, l1, l2, l3, kb]; exact wo_rul h
  · -- r01
    simp only [nC, nS, nF, nR, k0, k3, k4, k5, k6, k7, k8, k9, k11, k12, k13, k14, k15, k16, l0, l1, l2, l3, kb]; exact wo_r01 h
  · -- rm4
    simp only [nC, nS, nF, nR, k0, k3, k4, k5, k6, k7, k8, k9, k11, k12, k13, k14, k15, k16, l0, l1, l2, l3, kb]; exact wo_rm4 h
  · -- tk3
    simp only [nC, nS, nF, nR, k0, k3, k4, k5, k6, k7, k8, k9, k11, k12, k13, k14, k15, k16, l0, l1, l2, l3, kb]; exact wo_tk3 h
  · -- w6
    intro c2 h2 hd; simp only [nC, l0] at h2; rw [k0] at hd; have q := wo_w6 h c2 h2 hd; have q2 := wo_w6 h c hc hd; omega
  · -- wt3
    intro c2 j h2 hj; simp only [nC, l0] at h2; obtain ⟨j2, a1, a2⟩ := lv_a X c k c2 j hk hj; rw [a2, k9]; exact wo_wt3 h c2 j2 h2 a1
  · -- deg
    simp only [nC, nS, nF, nR, k0, k3, k4, k5, k6, k7, k8, k9, k11, k12, k13, k14, k15, k16, l0, l1, l2, l3, kb]; exact wo_deg h
theorem wv_lv {ν : Nat → Nat → Bool} {X : XM} (hW : WX ν X) {c k : Nat} (hc : (c : Int) < nC X) (hk : (k : Int) < X 1 (4 + c) 2) : WV ν (lv X c k) := by
  have h := hW.2
  have l0 : lv X c k 1 0 = X 1 0 := lv_ne (by omega)
  have l1 : lv X c k 1 1 = X 1 1 := lv_ne (by omega)
  have l2 : lv X c k 1 2 = X 1 2 := lv_ne (by omega)
  have l3 : lv X c k 1 3 = X 1 3 := lv_ne (by omega)
  have li : ∀ i, i < 4 → ∀ kk, lv X c k kk i = X kk i := fun i hi kk => lv_ne (by omega)
  have w1 : ∀ c', lv X c k 1 (4 + c') 1 = X 1 (4 + c') 1 := fun c' => by
    by_cases e : c' = c
    · subst e; rw [lv_1]; rfl
    · rw [lv_ne (by omega)]
  have w0 : ∀ i, lv X c k 2 i 0 = X 2 i 0 := fun i => by
    by_cases e : i = 4 + c
    · subst e; rw [lv_2, if_neg (by omega), if_neg (by omega)]
    · rw [lv_ne e]
  refine ⟨?_, ?_, ?_, ?_, ?_, ?_, ?_, ?_, ?_, ?_, ?_, trivial⟩
  · simp only [nS, l1]; exact wv_stu h
  · exact wv_new h
  · simp only [nC, l0]; exact wv_crs h
  · simp only [nR, l3]; exact wv_rul h
  · simp only [nF, l2]; exact wv_frm h
  · intro i hi; rw [li i hi, li i hi]; exact wv_lst h i hi
  · intro i hi; rw [li i hi]; exact wv_ls0 h i hi
  · intro i j hi; rw [li i hi, li i hi]; exact wv_le h i j hi
  · intro c' hc' he
    simp only [nC, l0] at hc'
    rw [w1] at he
    rw [w0, lv_n]
    have q := wv_wst h c' hc' he
    refine ⟨q.1, ?_⟩
    split
    · rename_i e; subst e; omega
    · exact q.2
  · intro c' hc' he
    simp only [nC, l0] at hc'
    rw [w1] at he
    rw [lv_n]
    have q := wv_ws0 h c' hc' he
    split
    · rename_i e; subst e; omega
    · exact q
  · intro i; rw [w0]; exact wv_cap h i
