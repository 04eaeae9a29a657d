/-! leaving a course, one more attempt: what they keep -/
set_option maxHeartbeats 2000000 in
theorem wo_un {X : XM} (h : WO X) (s c : Nat) : WO (xs X 5 s c 0) := by
  have m1 : xs X 5 s c 0 1 = X 1 := xs_nk (by decide)
  have m2 : xs X 5 s c 0 2 = X 2 := xs_nk (by decide)
  have k0 : (xs X 5 s c 0) 0 = X 0 := xs_nk (by decide)
  have k3 : (xs X 5 s c 0) 3 = X 3 := xs_nk (by decide)
  have k4 : (xs X 5 s c 0) 4 = X 4 := xs_nk (by decide)
  have k6 : (xs X 5 s c 0) 6 = X 6 := xs_nk (by decide)
  have k7 : (xs X 5 s c 0) 7 = X 7 := xs_nk (by decide)
  have k8 : (xs X 5 s c 0) 8 = X 8 := xs_nk (by decide)
  have k9 : (xs X 5 s c 0) 9 = X 9 := xs_nk (by decide)
  have k11 : (xs X 5 s c 0) 11 = X 11 := xs_nk (by decide)
  have k12 : (xs X 5 s c 0) 12 = X 12 := xs_nk (by decide)
  have k13 : (xs X 5 s c 0) 13 = X 13 := xs_nk (by decide)
  have k14 : (xs X 5 s c 0) 14 = X 14 := xs_nk (by decide)
  have k15 : (xs X 5 s c 0) 15 = X 15 := xs_nk (by decide)
  have k16 : (xs X 5 s c 0) 16 = X 16 := xs_nk (by decide)
  have l0 : (xs X 5 s c 0) 1 0 2 = X 1 0 2 := by rw [xs_nk (by decide)]
  have l1 : (xs X 5 s c 0) 1 1 2 = X 1 1 2 := by rw [xs_nk (by decide)]
  have l2 : (xs X 5 s c 0) 1 2 2 = X 1 2 2 := by rw [xs_nk (by decide)]
  have l3 : (xs X 5 s c 0) 1 3 2 = X 1 3 2 := by rw [xs_nk (by decide)]
  have kb : bsT (xs X 5 s c 0) = bsT X := bsT_cg k6 k11
  refine ⟨?_, ?_, ?_, ?_, ?_, ?_, ?_, ?_, ?_, ?_, ?_, ?_, ?_, ?_, ?_, ?_, ?_, ?_, ?_, ?_, ?_, ?_, ?_, ?_, ?_, ?_, ?_, ?_, ?_, ?_, ?_, ?_, ?_, ?_, ?_, ?_, ?_, trivial⟩
  · -- nC
    simp only [nC, nS, nF, nR, k0, k3, k4, k6, k7, k8, k9, k11, k12, k13, k14, k15, k16, l0, l1, l2, l3, kb]; exact wo_nC h
  · -- nS
    simp only [nC, nS, nF, nR, k0, k3, k4, k6, k7, k8, k9, k11, k12, k13, k14, k15, k16, l0, l1, l2, l3, kb]; exact wo_nS h
  · -- nF
    simp only [nC, nS, nF, nR, k0, k3, k4, k6, k7, k8, k9, k11, k12, k13, k14, k15, k16, l0, l1, l2, l3, kb]; exact wo_nF h
  · -- nR
    simp only [nC, nS, nF, nR, k0, k3, k4, k6, k7, k8, k9, k11, k12, k13, k14, k15, k16, l0, l1, l2, l3, kb]; exact wo_nR h
  · -- day
    simp only [nC, nS, nF, nR, k0, k3, k4, k6, k7, k8, k9, k11, k12, k13, k14, k15, k16, l0, l1, l2, l3, kb]; exact wo_day h
  · -- term
    simp only [nC, nS, nF, nR, k0, k3, k4, k6, k7, k8, k9, k11, k12, k13, k14, k15, k16, l0, l1, l2, l3, kb]; exact wo_term h
  · -- crd
    simp only [nC, nS, nF, nR, k0, k3, k4, k6, k7, k8, k9, k11, k12, k13, k14, k15, k16, l0, l1, l2, l3, kb]; exact wo_crd h
  · -- sea
    simp only [nC, nS, nF, nR, k0, k3, k4, k6, k7, k8, k9, k11, k12, k13, k14, k15, k16, l0, l1, l2, l3, kb]; exact wo_sea h
  · -- req
    simp only [nC, nS, nF, nR, k0, k3, k4, k6, k7, k8, k9, k11, k12, k13, k14, k15, k16, l0, l1, l2, l3, kb]; exact wo_req h
  · -- res
    simp only [nC, nS, nF, nR, k0, k3, k4, k6, k7, k8, k9, k11, k12, k13, k14, k15, k16, l0, l1, l2, l3, kb]; exact wo_res h
  · -- wN
    simp only [nC, nS, nF, nR, k0, k3, k4, k6, k7, k8, k9, k11, k12, k13, k14, k15, k16, l0, l1, l2, l3, kb]; exact wo_wN h
  · -- wA
    simp only [nC, nS, nF, nR, k0, k3, k4, k6, k7, k8, k9, k11, k12, k13, k14, k15, k16, l0, l1, l2, l3, kb]; exact wo_wA h
  · -- maj
    simp only [nC, nS, nF, nR, k0, k3, k4, k6, k7, k8, k9, k11, k12, k13, k14, k15, k16, l0, l1, l2, l3, kb]; exact wo_maj h
  · -- t01
    intro s2 c2 h2; rw [xs_all]; split; (exact Or.inl rfl); (exact wo_t01 h s2 c2 h2)
  · -- m01
    simp only [nC, nS, nF, nR, k0, k3, k4, k6, k7, k8, k9, k11, k12, k13, k14, k15, k16, l0, l1, l2, l3, kb]; exact wo_m01 h
  · -- tm
    simp only [nC, nS, nF, nR, k0, k3, k4, k6, k7, k8, k9, k11, k12, k13, k14, k15, k16, l0, l1, l2, l3, kb]; exact wo_tm h
  · -- bst
    simp only [nC, nS, nF, nR, k0, k3, k4, k6, k7, k8, k9, k11, k12, k13, k14, k15, k16, l0, l1, l2, l3, kb]; exact wo_bst h
  · -- tri
    simp only [nC, nS, nF, nR, k0, k3, k4, k6, k7, k8, k9, k11, k12, k13, k14, k15, k16, l0, l1, l2, l3, kb]; exact wo_tri h
  · -- trd
    simp only [nC, nS, nF, nR, k0, k3, k4, k6, k7, k8, k9, k11, k12, k13, k14, k15, k16, l0, l1, l2, l3, kb]; exact wo_trd h
  · -- bsq
    simp only [nC, nS, nF, nR, k0, k3, k4, k6, k7, k8, k9, k11, k12, k13, k14, k15, k16, l0, l1, l2, l3, kb]; exact wo_bsq h
  · -- far
    intro s2 c2 h2 h3 h4; simp only [nC, nS, l0, l1] at h2 h3; have q := wo_far h s2 c2 h2 h3 h4; rw [k6, k9, xs_all]; split; (exact ⟨rfl, q.2⟩); (exact q)
  · -- dep
    simp only [nC, nS, nF, nR, k0, k3, k4, k6, k7, k8, k9, k11, k12, k13, k14, k15, k16, l0, l1, l2, l3, kb]; exact wo_dep h
  · -- dp0
    simp only [nC, nS, nF, nR, k0, k3, k4, k6, k7, k8, k9, k11, k12, k13, k14, k15, k16, l0, l1, l2, l3, kb]; exact wo_dp0 h
  · -- fk
    simp only [nC, nS, nF, nR, k0, k3, k4, k6, k7, k8, k9, k11, k12, k13, k14, k15, k16, l0, l1, l2, l3, kb]; exact wo_fk h
  · -- f0
    simp only [nC, nS, nF, nR, k0, k3, k4, k6, k7, k8, k9, k11, k12, k13, k14, k15, k16, l0, l1, l2, l3, kb]; exact wo_f0 h
  · -- f1
    simp only [nC, nS, nF, nR, k0, k3, k4, k6, k7, k8, k9, k11, k12, k13, k14, k15, k16, l0, l1, l2, l3, kb]; exact wo_f1 h
  · -- f2
    simp only [nC, nS, nF, nR, k0, k3, k4, k6, k7, k8, k9, k11, k12, k13, k14, k15, k16, l0, l1, l2, l3, kb]; exact wo_f2 h
  · -- f3
    simp only [nC, nS, nF, nR, k0, k3, k4, k6, k7, k8, k9, k11, k12, k13, k14, k15, k16, l0, l1, l2, l3, kb]; exact wo_f3 h
  · -- f4
    simp only [nC, nS, nF, nR, k0, k3, k4, k6, k7, k8, k9, k11, k12, k13, k14, k15, k16, l0, l1, l2, l3, kb]; exact wo_f4 h
  · -- rul
    simp only [nC, nS, nF, nR, k0, k3, k4, k6, k7, k8, k9, k11, k12, k13, k14, k15, k16, l0, l1, l2, l3, kb]; exact wo_rul h
  · -- r01
    simp only [nC, nS, nF, nR, k0, k3, k4, k6, k7, k8, k9, k11, k12, k13, k14, k15, k16, l0, l1, l2, l3, kb]; exact wo_r01 h
  · -- rm4
    simp only [nC, nS, nF, nR, k0, k3, k4, k6, k7, k8, k9, k11, k12, k13, k14, k15, k16, l0, l1, l2, l3, kb]; exact wo_rm4 h
  · -- tk3
    intro s2 c2 h2 h3 h4; simp only [nS, l1] at h2; rw [k9]; rw [xs_all] at h4; by_cases e : 5 = 5 ∧ s2 = s ∧ c2 = c; (rw [if_pos e] at h4; exact absurd rfl h4); (rw [if_neg e] at h4; exact wo_tk3 h s2 c2 h2 h3 h4)
  · -- w6
    simp only [nC, nS, nF, nR, k0, k3, k4, k6, k7, k8, k9, k11, k12, k13, k14, k15, k16, l0, l1, l2, l3, kb]; exact wo_w6 h
  · -- wt3
    simp only [nC, nS, nF, nR, k0, k3, k4, k6, k7, k8, k9, k11, k12, k13, k14, k15, k16, l0, l1, l2, l3, kb]; exact wo_wt3 h
  · -- deg
    simp only [nC, nS, nF, nR, k0, k3, k4, k6, k7, k8, k9, k11, k12, k13, k14, k15, k16, l0, l1, l2, l3, kb]; exact wo_deg h
  · -- f7
    simp only [nC, nS, nF, nR, k0, k3, k4, k6, k7, k8, k9, k11, k12, k13, k14, k15, k16, l0, l1, l2, l3, kb]; exact wo_f7 h
theorem wx_un {ν : Nat → Nat → Bool} {X : XM} (h : WX ν X) (s c : Nat) : WX ν (xs X 5 s c 0) := ⟨wo_un h.1 s c, wv_k h.2 (xs_nk (by decide)) (xs_nk (by decide))⟩
theorem aa_k {X : XM} {s c k : Nat} {m : Int} (h8 : k ≠ 8) (h9 : k ≠ 9) (h11 : k ≠ 11) : aa X s c m k = X k := by
  unfold aa
  split
  · rw [xs_nk h8, xs_nk h9, xs_nk h11]
  · rfl
theorem aa_9 {X : XM} {s c : Nat} {m : Int} (ht : X 9 s c < 3) (s2 c2 : Nat) : aa X s c m 9 s2 c2 = if s2 = s ∧ c2 = c then X 9 s c + 1 else X 9 s2 c2 := by
  unfold aa
  rw [if_pos ht, xs_nk (by decide), xs_all, xs_nk (by decide)]
  by_cases e : s2 = s ∧ c2 = c
  · rw [if_pos e, if_pos ⟨rfl, e⟩]
  · rw [if_neg e, if_neg (fun z => e z.2)]
theorem aa_8 {X : XM} {s c : Nat} {m : Int} (ht : X 9 s c < 3) (s2 c2 : Nat) : aa X s c m 8 s2 c2 = if s2 = s ∧ c2 = c then (if X 8 s c < m then m else X 8 s c) else X 8 s2 c2 := by
  unfold aa
  rw [if_pos ht, xs_all, xs_nk (by decide), xs_nk (by decide)]
  by_cases e : s2 = s ∧ c2 = c
  · rw [if_pos e, if_pos ⟨rfl, e⟩]
  · rw [if_neg e, if_neg (fun z => e z.2)]
theorem aa_11 {X : XM} {s c : Nat} {m : Int} (ht : X 9 s c < 3) (q j : Nat) : aa X s c m 11 q j = if q = 20 * s + c ∧ j = (X 9 s c).toNat then m else X 11 q j := by
  unfold aa
  rw [if_pos ht, xs_nk (by decide), xs_nk (by decide), xs_all]
  by_cases e : q = 20 * s + c ∧ j = (X 9 s c).toNat
  · rw [if_pos e, if_pos ⟨rfl, e⟩]
  · rw [if_neg e, if_neg (fun z => e z.2)]
set_option maxHeartbeats 2000000 in
theorem wo_aa {X : XM} (h : WO X) {s c : Nat} {m : Int} (hs : (s : Int) < nS X) (hc : (c : Int) < nC X) (hd : 5 < X 0 0 5) (h5 : X 5 s c = 0) (ht : X 9 s c < 3) (hm : -1 ≤ m ∧ m ≤ 100) : WO (aa X s c m) := by
  have m1 : aa X s c m 1 = X 1 := aa_k (by decide) (by decide) (by decide)
  have m2 : aa X s c m 2 = X 2 := aa_k (by decide) (by decide) (by decide)
  have k0 : (aa X s c m) 0 = X 0 := aa_k (by decide) (by decide) (by decide)
  have k3 : (aa X s c m) 3 = X 3 := aa_k (by decide) (by decide) (by decide)
  have k4 : (aa X s c m) 4 = X 4 := aa_k (by decide) (by decide) (by decide)
  have k5 : (aa X s c m) 5 = X 5 := aa_k (by decide) (by decide) (by decide)
  have k6 : (aa X s c m) 6 = X 6 := aa_k (by decide) (by decide) (by decide)
  have k7 : (aa X s c m) 7 = X 7 := aa_k (by decide) (by decide) (by decide)
  have k12 : (aa X s c m) 12 = X 12 := aa_k (by decide) (by decide) (by decide)
  have k13 : (aa X s c m) 13 = X 13 := aa_k (by decide) (by decide) (by decide)
  have k14 : (aa X s c m) 14 = X 14 := aa_k (by decide) (by decide) (by decide)
  have k15 : (aa X s c m) 15 = X 15 := aa_k (by decide) (by decide) (by decide)
  have k16 : (aa X s c m) 16 = X 16 := aa_k (by decide) (by decide) (by decide)
  have l0 : (aa X s c m) 1 0 2 = X 1 0 2 := by rw [aa_k (by decide) (by decide) (by decide)]
  have l1 : (aa X s c m) 1 1 2 = X 1 1 2 := by rw [aa_k (by decide) (by decide) (by decide)]
  have l2 : (aa X s c m) 1 2 2 = X 1 2 2 := by rw [aa_k (by decide) (by decide) (by decide)]
  have l3 : (aa X s c m) 1 3 2 = X 1 3 2 := by rw [aa_k (by decide) (by decide) (by decide)]
  refine ⟨?_, ?_, ?_, ?_, ?_, ?_, ?_, ?_, ?_, ?_, ?_, ?_, ?_, ?_, ?_, ?_, ?_, ?_, ?_, ?_, ?_, ?_, ?_, ?_, ?_, ?_, ?_, ?_, ?_, ?_, ?_, ?_, ?_, ?_, ?_, ?_, ?_, trivial⟩
  · -- nC
    simp only [nC, nS, nF, nR, k0, k3, k4, k5, k6, k7, k12, k13, k14, k15, k16, l0, l1, l2, l3]; exact wo_nC h
  · -- nS
    simp only [nC, nS, nF, nR, k0, k3, k4, k5, k6, k7, k12, k13, k14, k15, k16, l0, l1, l2, l3]; exact wo_nS h
  · -- nF
    simp only [nC, nS, nF, nR, k0, k3, k4, k5, k6, k7, k12, k13, k14, k15, k16, l0, l1, l2, l3]; exact wo_nF h
  · -- nR
    simp only [nC, nS, nF, nR, k0, k3, k4, k5, k6, k7, k12, k13, k14, k15, k16, l0, l1, l2, l3]; exact wo_nR h
  · -- day
    simp only [nC, nS, nF, nR, k0, k3, k4, k5, k6, k7, k12, k13, k14, k15, k16, l0, l1, l2, l3]; exact wo_day h
  · -- term
    simp only [nC, nS, nF, nR, k0, k3, k4, k5, k6, k7, k12, k13, k14, k15, k16, l0, l1, l2, l3]; exact wo_term h
  · -- crd
    simp only [nC, nS, nF, nR, k0, k3, k4, k5, k6, k7, k12, k13, k14, k15, k16, l0, l1, l2, l3]; exact wo_crd h
  · -- sea
    simp only [nC, nS, nF, nR, k0, k3, k4, k5, k6, k7, k12, k13, k14, k15, k16, l0, l1, l2, l3]; exact wo_sea h
  · -- req
    simp only [nC, nS, nF, nR, k0, k3, k4, k5, k6, k7, k12, k13, k14, k15, k16, l0, l1, l2, l3]; exact wo_req h
  · -- res
    simp only [nC, nS, nF, nR, k0, k3, k4, k5, k6, k7, k12, k13, k14, k15, k16, l0, l1, l2, l3]; exact wo_res h
  · -- wN
    simp only [nC, m1]; exact wo_wN h
  · -- wA
    simp only [nC, nS, m1, m2]; exact wo_wA h
  · -- maj
    simp only [nC, nS, nF, nR, k0, k3, k4, k5, k6, k7, k12, k13, k14, k15, k16, l0, l1, l2, l3]; exact wo_maj h
  · -- t01
    simp only [nC, nS, nF, nR, k0, k3, k4, k5, k6, k7, k12, k13, k14, k15, k16, l0, l1, l2, l3]; exact wo_t01 h
  · -- m01
    simp only [nC, nS, nF, nR, k0, k3, k4, k5, k6, k7, k12, k13, k14, k15, k16, l0, l1, l2, l3]; exact wo_m01 h
  · -- tm
    simp only [nC, nS, nF, nR, k0, k3, k4, k5, k6, k7, k12, k13, k14, k15, k16, l0, l1, l2, l3]; exact wo_tm h
  · -- bst
    intro s2 c2 h2 h3; simp only [nS, l1] at h2; rw [aa_8 ht]; have q := wo_bst h s2 c2 h2 h3; by_cases e : s2 = s ∧ c2 = c; (obtain ⟨rfl, rfl⟩ := e; rw [if_pos ⟨rfl, rfl⟩]; split <;> omega); (rw [if_neg e]; exact q)
  · -- tri
    intro s2 c2 h2 h3; simp only [nS, l1] at h2; rw [aa_9 ht]; have q := wo_tri h s2 c2 h2 h3; by_cases e : s2 = s ∧ c2 = c; (obtain ⟨rfl, rfl⟩ := e; rw [if_pos ⟨rfl, rfl⟩]; omega); (rw [if_neg e]; exact q)
  · -- trd
    intro s2 c2 k h2 h3 h4; simp only [nS, l1] at h2; have hc20 : c < 20 := (by have := wo_nC h; omega); rw [aa_9 ht] at h4; rw [aa_11 ht]; by_cases e : s2 = s ∧ c2 = c; (obtain ⟨rfl, rfl⟩ := e; have q0 := wo_tri h s2 c2 h2 h3; rw [if_pos ⟨rfl, rfl⟩] at h4; by_cases e2 : k = (X 9 s2 c2).toNat; (rw [if_pos ⟨rfl, e2⟩]; exact hm); (rw [if_neg (fun z => e2 z.2)]; exact wo_trd h s2 c2 k h2 h3 (by omega))); (rw [if_neg e] at h4; rw [if_neg (by omega)]; exact wo_trd h s2 c2 k h2 h3 h4)
  · -- bsq
    intro s2 c2 h2 h3; simp only [nS, l1] at h2; have hc20 : c < 20 := (by have := wo_nC h; omega); rw [aa_8 ht, aa_9 ht]; have q := wo_bsq h s2 c2 h2 h3; have q0 := wo_tri h s2 c2 h2 h3; by_cases e : s2 = s ∧ c2 = c; (obtain ⟨rfl, rfl⟩ := e; rw [if_pos (show s2 = s2 ∧ c2 = c2 from ⟨rfl, rfl⟩), if_pos (show s2 = s2 ∧ c2 = c2 from ⟨rfl, rfl⟩), show (X 9 s2 c2 + 1).toNat = (X 9 s2 c2).toNat + 1 by omega]; show _ = (if bsT (aa X s2 c2 m) s2 c2 (X 9 s2 c2).toNat < aa X s2 c2 m 11 (20 * s2 + c2) (X 9 s2 c2).toNat then aa X s2 c2 m 11 (20 * s2 + c2) (X 9 s2 c2).toNat else bsT (aa X s2 c2 m) s2 c2 (X 9 s2 c2).toNat); rw [bsT_ne (X := X) (by rw [k6]) _ (fun j hj => by rw [aa_11 ht, if_neg (by omega)]), ← q, aa_11 ht, if_pos (show 20 * s2 + c2 = 20 * s2 + c2 ∧ (X 9 s2 c2).toNat = (X 9 s2 c2).toNat from ⟨rfl, rfl⟩)]); (rw [if_neg e, if_neg e, bsT_ne (X := X) (by rw [k6]) _ (fun j hj => by rw [aa_11 ht, if_neg (by omega)])]; exact q)
  · -- far
    intro s2 c2 h2 h3 h4; simp only [nC, nS, l0, l1] at h2 h3; have q := wo_far h s2 c2 h2 h3 h4; have hc2 : (c : Int) < X 1 0 2 := hc; rw [k5, k6, aa_9 ht, if_neg (by omega)]; exact q
  · -- dep
    simp only [nC, nS, nF, nR, k0, k3, k4, k5, k6, k7, k12, k13, k14, k15, k16, l0, l1, l2, l3]; exact wo_dep h
  · -- dp0
    simp only [nC, nS, nF, nR, k0, k3, k4, k5, k6, k7, k12, k13, k14, k15, k16, l0, l1, l2, l3]; exact wo_dp0 h
  · -- fk
    simp only [nC, nS, nF, nR, k0, k3, k4, k5, k6, k7, k12, k13, k14, k15, k16, l0, l1, l2, l3]; exact wo_fk h
  · -- f0
    simp only [nC, nS, nF, nR, k0, k3, k4, k5, k6, k7, k12, k13, k14, k15, k16, l0, l1, l2, l3]; exact wo_f0 h
  · -- f1
    simp only [nC, nS, nF, nR, k0, k3, k4, k5, k6, k7, k12, k13, k14, k15, k16, l0, l1, l2, l3]; exact wo_f1 h
  · -- f2
    simp only [nC, nS, nF, nR, k0, k3, k4, k5, k6, k7, k12, k13, k14, k15, k16, l0, l1, l2, l3]; exact wo_f2 h
  · -- f3
    simp only [nC, nS, nF, nR, k0, k3, k4, k5, k6, k7, k12, k13, k14, k15, k16, l0, l1, l2, l3]; exact wo_f3 h
  · -- f4
    simp only [nC, nS, nF, nR, k0, k3, k4, k5, k6, k7, k12, k13, k14, k15, k16, l0, l1, l2, l3]; exact wo_f4 h
  · -- rul
    simp only [nC, nS, nF, nR, k0, k3, k4, k5, k6, k7, k12, k13, k14, k15, k16, l0, l1, l2, l3]; exact wo_rul h
  · -- r01
    simp only [nC, nS, nF, nR, k0, k3, k4, k5, k6, k7, k12, k13, k14, k15, k16, l0, l1, l2, l3]; exact wo_r01 h
  · -- rm4
    simp only [nC, nS, nF, nR, k0, k3, k4, k5, k6, k7, k12, k13, k14, k15, k16, l0, l1, l2, l3]; exact wo_rm4 h
  · -- tk3
    intro s2 c2 h2 h3 h4; simp only [nS, l1] at h2; rw [k5] at h4; rw [aa_9 ht]; by_cases e : s2 = s ∧ c2 = c; (obtain ⟨rfl, rfl⟩ := e; exact absurd h5 h4); (rw [if_neg e]; exact wo_tk3 h s2 c2 h2 h3 h4)
  · -- w6
    simp only [nC, m1, k0]; exact wo_w6 h
  · -- wt3
    intro c2 k h2 hk; simp only [nC, l0] at h2; have q := wo_w6 h c2 h2 hd; rw [m1] at hk; have q2 : X 1 (4 + c2) 2 = 0 := q; omega
  · -- deg
    simp only [nC, nS, nF, nR, k0, k3, k4, k5, k6, k7, k12, k13, k14, k15, k16, l0, l1, l2, l3]; exact wo_deg h
  · -- f7
    simp only [nC, nS, nF, nR, k0, k3, k4, k5, k6, k7, k12, k13, k14, k15, k16, l0, l1, l2, l3]; exact wo_f7 h
theorem wx_aa {ν : Nat → Nat → Bool} {X : XM} (h : WX ν X) {s c : Nat} {m : Int} (hs : (s : Int) < nS X) (hc : (c : Int) < nC X) (hd : 5 < X 0 0 5) (h5 : X 5 s c = 0) (ht : X 9 s c < 3) (hm : -1 ≤ m ∧ m ≤ 100) : WX ν (aa X s c m) := ⟨wo_aa h.1 hs hc hd h5 ht hm, wv_k h.2 (aa_k (by decide) (by decide) (by decide)) (aa_k (by decide) (by decide) (by decide))⟩
theorem bitsE_clr {z : Int} {f : Nat → Int} (h : bitsE z f) {c : Nat} (hc : c < 20) {y : Int} (hy : 0 ≤ y ∧ y < 1048576) (hb : ∀ j, j < 20 → y.toNat.testBit j = (z.toNat.testBit j && !decide (j = c))) {f2 : Nat → Int} (h1 : f2 c = 0) (h2 : ∀ j, j ≠ c → f2 j = f j) : bitsE y f2 := by
  obtain ⟨a1, a2, a3⟩ := h
  refine ⟨hy.1, hy.2, fun j hj => ?_⟩
  rw [hb j hj, a3 j hj]
  by_cases e : j = c
  · subst e; simp [h1]
  · rw [h2 j e]; simp [e]
