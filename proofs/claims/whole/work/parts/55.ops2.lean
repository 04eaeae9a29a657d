/-! the calls that change one thing: what they keep -/
theorem wv_k {ν : Nat → Nat → Bool} {X X1 : XM} (h : WV ν X) (m1 : X1 1 = X 1) (m2 : X1 2 = X 2) : WV ν X1 := by
  unfold WV nS nC nR nF
  rw [m1, m2]
  exact h
set_option maxHeartbeats 2000000 in
theorem wo_cm {X : XM} (h : WO X) {s : Nat} {m : Int} (hm : 0 ≤ m ∧ m ≤ 3) : WO (xs X 4 s 0 m) := by
  have m1 : (xs X 4 s 0 m) 1 = X 1 := xs_nk (by decide)
  have m2 : (xs X 4 s 0 m) 2 = X 2 := xs_nk (by decide)
  have k0 : (xs X 4 s 0 m) 0 = X 0 := xs_nk (by decide)
  have k3 : (xs X 4 s 0 m) 3 = X 3 := xs_nk (by decide)
  have k5 : (xs X 4 s 0 m) 5 = X 5 := xs_nk (by decide)
  have k6 : (xs X 4 s 0 m) 6 = X 6 := xs_nk (by decide)
  have k7 : (xs X 4 s 0 m) 7 = X 7 := xs_nk (by decide)
  have k8 : (xs X 4 s 0 m) 8 = X 8 := xs_nk (by decide)
  have k9 : (xs X 4 s 0 m) 9 = X 9 := xs_nk (by decide)
  have k11 : (xs X 4 s 0 m) 11 = X 11 := xs_nk (by decide)
  have k12 : (xs X 4 s 0 m) 12 = X 12 := xs_nk (by decide)
  have k13 : (xs X 4 s 0 m) 13 = X 13 := xs_nk (by decide)
  have k14 : (xs X 4 s 0 m) 14 = X 14 := xs_nk (by decide)
  have k15 : (xs X 4 s 0 m) 15 = X 15 := xs_nk (by decide)
  have k16 : (xs X 4 s 0 m) 16 = X 16 := xs_nk (by decide)
  have l0 : (xs X 4 s 0 m) 1 0 2 = X 1 0 2 := by rw [xs_nk (by decide)]
  have l1 : (xs X 4 s 0 m) 1 1 2 = X 1 1 2 := by rw [xs_nk (by decide)]
  have l2 : (xs X 4 s 0 m) 1 2 2 = X 1 2 2 := by rw [xs_nk (by decide)]
  have l3 : (xs X 4 s 0 m) 1 3 2 = X 1 3 2 := by rw [xs_nk (by decide)]
  have kb : bsT (xs X 4 s 0 m) = bsT X := bsT_cg k6 k11
  refine ⟨?_, ?_, ?_, ?_, ?_, ?_, ?_, ?_, ?_, ?_, ?_, ?_, ?_, ?_, ?_, ?_, ?_, ?_, ?_, ?_, ?_, ?_, ?_, ?_, ?_, ?_, ?_, ?_, ?_, ?_, ?_, ?_, ?_, ?_, ?_, ?_, ?_, trivial⟩
  · -- nC
    simp only [nC, nS, nF, nR, k0, k3, k5, k6, k7, k8, k9, k11, k12, k13, k14, k15, k16, l0, l1, l2, l3, kb]; exact wo_nC h
  · -- nS
    simp only [nC, nS, nF, nR, k0, k3, k5, k6, k7, k8, k9, k11, k12, k13, k14, k15, k16, l0, l1, l2, l3, kb]; exact wo_nS h
  · -- nF
    simp only [nC, nS, nF, nR, k0, k3, k5, k6, k7, k8, k9, k11, k12, k13, k14, k15, k16, l0, l1, l2, l3, kb]; exact wo_nF h
  · -- nR
    simp only [nC, nS, nF, nR, k0, k3, k5, k6, k7, k8, k9, k11, k12, k13, k14, k15, k16, l0, l1, l2, l3, kb]; exact wo_nR h
  · -- day
    simp only [nC, nS, nF, nR, k0, k3, k5, k6, k7, k8, k9, k11, k12, k13, k14, k15, k16, l0, l1, l2, l3, kb]; exact wo_day h
  · -- term
    simp only [nC, nS, nF, nR, k0, k3, k5, k6, k7, k8, k9, k11, k12, k13, k14, k15, k16, l0, l1, l2, l3, kb]; exact wo_term h
  · -- crd
    simp only [nC, nS, nF, nR, k0, k3, k5, k6, k7, k8, k9, k11, k12, k13, k14, k15, k16, l0, l1, l2, l3, kb]; exact wo_crd h
  · -- sea
    simp only [nC, nS, nF, nR, k0, k3, k5, k6, k7, k8, k9, k11, k12, k13, k14, k15, k16, l0, l1, l2, l3, kb]; exact wo_sea h
  · -- req
    simp only [nC, nS, nF, nR, k0, k3, k5, k6, k7, k8, k9, k11, k12, k13, k14, k15, k16, l0, l1, l2, l3, kb]; exact wo_req h
  · -- res
    simp only [nC, nS, nF, nR, k0, k3, k5, k6, k7, k8, k9, k11, k12, k13, k14, k15, k16, l0, l1, l2, l3, kb]; exact wo_res h
  · -- wN
    simp only [nC, nS, nF, nR, k0, k3, k5, k6, k7, k8, k9, k11, k12, k13, k14, k15, k16, l0, l1, l2, l3, kb]; exact wo_wN h
  · -- wA
    simp only [nC, nS, nF, nR, k0, k3, k5, k6, k7, k8, k9, k11, k12, k13, k14, k15, k16, l0, l1, l2, l3, kb]; exact wo_wA h
  · -- maj
    intro s2 h2; simp only [nS, l1] at h2; rw [xs_all]; split; (exact hm); (exact wo_maj h s2 h2)
  · -- t01
    simp only [nC, nS, nF, nR, k0, k3, k5, k6, k7, k8, k9, k11, k12, k13, k14, k15, k16, l0, l1, l2, l3, kb]; exact wo_t01 h
  · -- m01
    simp only [nC, nS, nF, nR, k0, k3, k5, k6, k7, k8, k9, k11, k12, k13, k14, k15, k16, l0, l1, l2, l3, kb]; exact wo_m01 h
  · -- tm
    simp only [nC, nS, nF, nR, k0, k3, k5, k6, k7, k8, k9, k11, k12, k13, k14, k15, k16, l0, l1, l2, l3, kb]; exact wo_tm h
  · -- bst
    simp only [nC, nS, nF, nR, k0, k3, k5, k6, k7, k8, k9, k11, k12, k13, k14, k15, k16, l0, l1, l2, l3, kb]; exact wo_bst h
  · -- tri
    simp only [nC, nS, nF, nR, k0, k3, k5, k6, k7, k8, k9, k11, k12, k13, k14, k15, k16, l0, l1, l2, l3, kb]; exact wo_tri h
  · -- trd
    simp only [nC, nS, nF, nR, k0, k3, k5, k6, k7, k8, k9, k11, k12, k13, k14, k15, k16, l0, l1, l2, l3, kb]; exact wo_trd h
  · -- bsq
    simp only [nC, nS, nF, nR, k0, k3, k5, k6, k7, k8, k9, k11, k12, k13, k14, k15, k16, l0, l1, l2, l3, kb]; exact wo_bsq h
  · -- far
    simp only [nC, nS, nF, nR, k0, k3, k5, k6, k7, k8, k9, k11, k12, k13, k14, k15, k16, l0, l1, l2, l3, kb]; exact wo_far h
  · -- dep
    simp only [nC, nS, nF, nR, k0, k3, k5, k6, k7, k8, k9, k11, k12, k13, k14, k15, k16, l0, l1, l2, l3, kb]; exact wo_dep h
  · -- dp0
    simp only [nC, nS, nF, nR, k0, k3, k5, k6, k7, k8, k9, k11, k12, k13, k14, k15, k16, l0, l1, l2, l3, kb]; exact wo_dp0 h
  · -- fk
    simp only [nC, nS, nF, nR, k0, k3, k5, k6, k7, k8, k9, k11, k12, k13, k14, k15, k16, l0, l1, l2, l3, kb]; exact wo_fk h
  · -- f0
    simp only [nC, nS, nF, nR, k0, k3, k5, k6, k7, k8, k9, k11, k12, k13, k14, k15, k16, l0, l1, l2, l3, kb]; exact wo_f0 h
  · -- f1
    simp only [nC, nS, nF, nR, k0, k3, k5, k6, k7, k8, k9, k11, k12, k13, k14, k15, k16, l0, l1, l2, l3, kb]; exact wo_f1 h
  · -- f2
    simp only [nC, nS, nF, nR, k0, k3, k5, k6, k7, k8, k9, k11, k12, k13, k14, k15, k16, l0, l1, l2, l3, kb]; exact wo_f2 h
  · -- f3
    simp only [nC, nS, nF, nR, k0, k3, k5, k6, k7, k8, k9, k11, k12, k13, k14, k15, k16, l0, l1, l2, l3, kb]; exact wo_f3 h
  · -- f4
    simp only [nC, nS, nF, nR, k0, k3, k5, k6, k7, k8, k9, k11, k12, k13, k14, k15, k16, l0, l1, l2, l3, kb]; exact wo_f4 h
  · -- rul
    simp only [nC, nS, nF, nR, k0, k3, k5, k6, k7, k8, k9, k11, k12, k13, k14, k15, k16, l0, l1, l2, l3, kb]; exact wo_rul h
  · -- r01
    simp only [nC, nS, nF, nR, k0, k3, k5, k6, k7, k8, k9, k11, k12, k13, k14, k15, k16, l0, l1, l2, l3, kb]; exact wo_r01 h
  · -- rm4
    simp only [nC, nS, nF, nR, k0, k3, k5, k6, k7, k8, k9, k11, k12, k13, k14, k15, k16, l0, l1, l2, l3, kb]; exact wo_rm4 h
  · -- tk3
    simp only [nC, nS, nF, nR, k0, k3, k5, k6, k7, k8, k9, k11, k12, k13, k14, k15, k16, l0, l1, l2, l3, kb]; exact wo_tk3 h
  · -- w6
    simp only [nC, nS, nF, nR, k0, k3, k5, k6, k7, k8, k9, k11, k12, k13, k14, k15, k16, l0, l1, l2, l3, kb]; exact wo_w6 h
  · -- wt3
    simp only [nC, nS, nF, nR, k0, k3, k5, k6, k7, k8, k9, k11, k12, k13, k14, k15, k16, l0, l1, l2, l3, kb]; exact wo_wt3 h
  · -- deg
    simp only [nC, nS, nF, nR, k0, k3, k5, k6, k7, k8, k9, k11, k12, k13, k14, k15, k16, l0, l1, l2, l3, kb]; exact wo_deg h
  · -- f7
    simp only [nC, nS, nF, nR, k0, k3, k5, k6, k7, k8, k9, k11, k12, k13, k14, k15, k16, l0, l1, l2, l3, kb]; exact wo_f7 h
theorem wx_cm {ν : Nat → Nat → Bool} {X : XM} (h : WX ν X) {s : Nat} {m : Int} (hm : 0 ≤ m ∧ m ≤ 3) : WX ν (xs X 4 s 0 m) := ⟨wo_cm h.1 hm, wv_k h.2 (xs_nk (by decide)) (xs_nk (by decide))⟩
set_option linter.unusedVariables false
set_option maxHeartbeats 2000000 in
theorem wo_rs {X : XM} (h : WO X) {c m : Nat} {n : Int} (hn : 0 ≤ n ∧ n ≤ 12) : WO (xs X 13 c m n) := by
  have m1 : (xs X 13 c m n) 1 = X 1 := xs_nk (by decide)
  have m2 : (xs X 13 c m n) 2 = X 2 := xs_nk (by decide)
  have k0 : (xs X 13 c m n) 0 = X 0 := xs_nk (by decide)
  have k3 : (xs X 13 c m n) 3 = X 3 := xs_nk (by decide)
  have k4 : (xs X 13 c m n) 4 = X 4 := xs_nk (by decide)
  have k5 : (xs X 13 c m n) 5 = X 5 := xs_nk (by decide)
  have k6 : (xs X 13 c m n) 6 = X 6 := xs_nk (by decide)
  have k7 : (xs X 13 c m n) 7 = X 7 := xs_nk (by decide)
  have k8 : (xs X 13 c m n) 8 = X 8 := xs_nk (by decide)
  have k9 : (xs X 13 c m n) 9 = X 9 := xs_nk (by decide)
  have k11 : (xs X 13 c m n) 11 = X 11 := xs_nk (by decide)
  have k12 : (xs X 13 c m n) 12 = X 12 := xs_nk (by decide)
  have k14 : (xs X 13 c m n) 14 = X 14 := xs_nk (by decide)
  have k15 : (xs X 13 c m n) 15 = X 15 := xs_nk (by decide)
  have k16 : (xs X 13 c m n) 16 = X 16 := xs_nk (by decide)
  have l0 : (xs X 13 c m n) 1 0 2 = X 1 0 2 := by rw [xs_nk (by decide)]
  have l1 : (xs X 13 c m n) 1 1 2 = X 1 1 2 := by rw [xs_nk (by decide)]
  have l2 : (xs X 13 c m n) 1 2 2 = X 1 2 2 := by rw [xs_nk (by decide)]
  have l3 : (xs X 13 c m n) 1 3 2 = X 1 3 2 := by rw [xs_nk (by decide)]
  have kb : bsT (xs X 13 c m n) = bsT X := bsT_cg k6 k11
  refine ⟨?_, ?_, ?_, ?_, ?_, ?_, ?_, ?_, ?_, ?_, ?_, ?_, ?_, ?_, ?_, ?_, ?_, ?_, ?_, ?_, ?_, ?_, ?_, ?_, ?_, ?_, ?_, ?_, ?_, ?_, ?_, ?_, ?_, ?_, ?_, ?_, ?_, trivial⟩
  · -- nC
    simp only [nC, nS, nF, nR, k0, k3, k4, k5, k6, k7, k8, k9, k11, k12, k14, k15, k16, l0, l1, l2, l3, kb]; exact wo_nC h
  · -- nS
    simp only [nC, nS, nF, nR, k0, k3, k4, k5, k6, k7, k8, k9, k11, k12, k14, k15, k16, l0, l1, l2, l3, kb]; exact wo_nS h
  · -- nF
    simp only [nC, nS, nF, nR, k0, k3, k4, k5, k6, k7, k8, k9, k11, k12, k14, k15, k16, l0, l1, l2, l3, kb]; exact wo_nF h
  · -- nR
    simp only [nC, nS, nF, nR, k0, k3, k4, k5, k6, k7, k8, k9, k11, k12, k14, k15, k16, l0, l1, l2, l3, kb]; exact wo_nR h
  · -- day
    simp only [nC, nS, nF, nR, k0, k3, k4, k5, k6, k7, k8, k9, k11, k12, k14, k15, k16, l0, l1, l2, l3, kb]; exact wo_day h
  · -- term
    simp only [nC, nS, nF, nR, k0, k3, k4, k5, k6, k7, k8, k9, k11, k12, k14, k15, k16, l0, l1, l2, l3, kb]; exact wo_term h
  · -- crd
    simp only [nC, nS, nF, nR, k0, k3, k4, k5, k6, k7, k8, k9, k11, k12, k14, k15, k16, l0, l1, l2, l3, kb]; exact wo_crd h
  · -- sea
    simp only [nC, nS, nF, nR, k0, k3, k4, k5, k6, k7, k8, k9, k11, k12, k14, k15, k16, l0, l1, l2, l3, kb]; exact wo_sea h
  · -- req
    simp only [nC, nS, nF, nR, k0, k3, k4, k5, k6, k7, k8, k9, k11, k12, k14, k15, k16, l0, l1, l2, l3, kb]; exact wo_req h
  · -- res
    intro c2 m2 h2 h3; simp only [nC, l0] at h2; rw [xs_all]; split; (exact hn); (exact wo_res h c2 m2 h2 h3)
  · -- wN
    simp only [nC, nS, nF, nR, k0, k3, k4, k5, k6, k7, k8, k9, k11, k12, k14, k15, k16, l0, l1, l2, l3, kb]; exact wo_wN h
  · -- wA
    simp only [nC, nS, nF, nR, k0, k3, k4, k5, k6, k7, k8, k9, k11, k12, k14, k15, k16, l0, l1, l2, l3, kb]; exact wo_wA h
  · -- maj
    simp only [nC, nS, nF, nR, k0, k3, k4, k5, k6, k7, k8, k9, k11, k12, k14, k15, k16, l0, l1, l2, l3, kb]; exact wo_maj h
  · -- t01
    simp only [nC, nS, nF, nR, k0, k3, k4, k5, k6, k7, k8, k9, k11, k12, k14, k15, k16, l0, l1, l2, l3, kb]; exact wo_t01 h
  · -- m01
    simp only [nC, nS, nF, nR, k0, k3, k4, k5, k6, k7, k8, k9, k11, k12, k14, k15, k16, l0, l1, l2, l3, kb]; exact wo_m01 h
  · -- tm
    simp only [nC, nS, nF, nR, k0, k3, k4, k5, k6, k7, k8, k9, k11, k12, k14, k15, k16, l0, l1, l2, l3, kb]; exact wo_tm h
  · -- bst
    simp only [nC, nS, nF, nR, k0, k3, k4, k5, k6, k7, k8, k9, k11, k12, k14, k15, k16, l0, l1, l2, l3, kb]; exact wo_bst h
  · -- tri
    simp only [nC, nS, nF, nR, k0, k3, k4, k5, k6, k7, k8, k9, k11, k12, k14, k15, k16, l0, l1, l2, l3, kb]; exact wo_tri h
  · -- trd
    simp only [nC, nS, nF, nR, k0, k3, k4, k5, k6, k7, k8, k9, k11, k12, k14, k15, k16, l0, l1, l2, l3, kb]; exact wo_trd h
  · -- bsq
    simp only [nC, nS, nF, nR, k0, k3, k4, k5, k6, k7, k8, k9, k11, k12, k14, k15, k16, l0, l1, l2, l3, kb]; exact wo_bsq h
  · -- far
    simp only [nC, nS, nF, nR, k0, k3, k4, k5, k6, k7, k8, k9, k11, k12, k14, k15, k16, l0, l1, l2, l3, kb]; exact wo_far h
  · -- dep
    simp only [nC, nS, nF, nR, k0, k3, k4, k5, k6, k7, k8, k9, k11, k12, k14, k15, k16, l0, l1, l2, l3, kb]; exact wo_dep h
  · -- dp0
    simp only [nC, nS, nF, nR, k0, k3, k4, k5, k6, k7, k8, k9, k11, k12, k14, k15, k16, l0, l1, l2, l3, kb]; exact wo_dp0 h
  · -- fk
    simp only [nC, nS, nF, nR, k0, k3, k4, k5, k6, k7, k8, k9, k11, k12, k14, k15, k16, l0, l1, l2, l3, kb]; exact wo_fk h
  · -- f0
    simp only [nC, nS, nF, nR, k0, k3, k4, k5, k6, k7, k8, k9, k11, k12, k14, k15, k16, l0, l1, l2, l3, kb]; exact wo_f0 h
  · -- f1
    simp only [nC, nS, nF, nR, k0, k3, k4, k5, k6, k7, k8, k9, k11, k12, k14, k15, k16, l0, l1, l2, l3, kb]; exact wo_f1 h
  · -- f2
    simp only [nC, nS, nF, nR, k0, k3, k4, k5, k6, k7, k8, k9, k11, k12, k14, k15, k16, l0, l1, l2, l3, kb]; exact wo_f2 h
  · -- f3
    simp only [nC, nS, nF, nR, k0, k3, k4, k5, k6, k7, k8, k9, k11, k12, k14, k15, k16, l0, l1, l2, l3, kb]; exact wo_f3 h
  · -- f4
    simp only [nC, nS, nF, nR, k0, k3, k4, k5, k6, k7, k8, k9, k11, k12, k14, k15, k16, l0, l1, l2, l3, kb]; exact wo_f4 h
  · -- rul
    simp only [nC, nS, nF, nR, k0, k3, k4, k5, k6, k7, k8, k9, k11, k12, k14, k15, k16, l0, l1, l2, l3, kb]; exact wo_rul h
  · -- r01
    simp only [nC, nS, nF, nR, k0, k3, k4, k5, k6, k7, k8, k9, k11, k12, k14, k15, k16, l0, l1, l2, l3, kb]; exact wo_r01 h
  · -- rm4
    simp only [nC, nS, nF, nR, k0, k3, k4, k5, k6, k7, k8, k9, k11, k12, k14, k15, k16, l0, l1, l2, l3, kb]; exact wo_rm4 h
  · -- tk3
    simp only [nC, nS, nF, nR, k0, k3, k4, k5, k6, k7, k8, k9, k11, k12, k14, k15, k16, l0, l1, l2, l3, kb]; exact wo_tk3 h
  · -- w6
    simp only [nC, nS, nF, nR, k0, k3, k4, k5, k6, k7, k8, k9, k11, k12, k14, k15, k16, l0, l1, l2, l3, kb]; exact wo_w6 h
  · -- wt3
    simp only [nC, nS, nF, nR, k0, k3, k4, k5, k6, k7, k8, k9, k11, k12, k14, k15, k16, l0, l1, l2, l3, kb]; exact wo_wt3 h
  · -- deg
    simp only [nC, nS, nF, nR, k0, k3, k4, k5, k6, k7, k8, k9, k11, k12, k14, k15, k16, l0, l1, l2, l3, kb]; exact wo_deg h
  · -- f7
    simp only [nC, nS, nF, nR, k0, k3, k4, k5, k6, k7, k8, k9, k11, k12, k14, k15, k16, l0, l1, l2, l3, kb]; exact wo_f7 h
theorem wx_rs {ν : Nat → Nat → Bool} {X : XM} (h : WX ν X) {c m : Nat} {n : Int} (hn : 0 ≤ n ∧ n ≤ 12) : WX ν (xs X 13 c m n) := ⟨wo_rs h.1 hn, wv_k h.2 (xs_nk (by decide)) (xs_nk (by decide))⟩
set_option linter.unusedVariables false
set_option maxHeartbeats 2000000 in
theorem wo_rq {X : XM} (h : WO X) {c : Nat} {f : Int} (hf : -1 ≤ f ∧ f < nF X) : WO (xs X 12 c 5 f) := by
  have m1 : (xs X 12 c 5 f) 1 = X 1 := xs_nk (by decide)
  have m2 : (xs X 12 c 5 f) 2 = X 2 := xs_nk (by decide)
  have k0 : (xs X 12 c 5 f) 0 = X 0 := xs_nk (by decide)
  have k3 : (xs X 12 c 5 f) 3 = X 3 := xs_nk (by decide)
  have k4 : (xs X 12 c 5 f) 4 = X 4 := xs_nk (by decide)
  have k5 : (xs X 12 c 5 f) 5 = X 5 := xs_nk (by decide)
  have k6 : (xs X 12 c 5 f) 6 = X 6 := xs_nk (by decide)
  have k7 : (xs X 12 c 5 f) 7 = X 7 := xs_nk (by decide)
  have k8 : (xs X 12 c 5 f) 8 = X 8 := xs_nk (by decide)
  have k9 : (xs X 12 c 5 f) 9 = X 9 := xs_nk (by decide)
  have k11 : (xs X 12 c 5 f) 11 = X 11 := xs_nk (by decide)
  have k13 : (xs X 12 c 5 f) 13 = X 13 := xs_nk (by decide)
  have k14 : (xs X 12 c 5 f) 14 = X 14 := xs_nk (by decide)
  have k15 : (xs X 12 c 5 f) 15 = X 15 := xs_nk (by decide)
  have k16 : (xs X 12 c 5 f) 16 = X 16 := xs_nk (by decide)
  have l0 : (xs X 12 c 5 f) 1 0 2 = X 1 0 2 := by rw [xs_nk (by decide)]
  have l1 : (xs X 12 c 5 f) 1 1 2 = X 1 1 2 := by rw [xs_nk (by decide)]
  have l2 : (xs X 12 c 5 f) 1 2 2 = X 1 2 2 := by rw [xs_nk (by decide)]
  have l3 : (xs X 12 c 5 f) 1 3 2 = X 1 3 2 := by rw [xs_nk (by decide)]
  have kb : bsT (xs X 12 c 5 f) = bsT X := bsT_cg k6 k11
  refine ⟨?_, ?_, ?_, ?_, ?_, ?_, ?_, ?_, ?_, ?_, ?_, ?_, ?_, ?_, ?_, ?_, ?_, ?_, ?_, ?_, ?_, ?_, ?_, ?_, ?_, ?_, ?_, ?_, ?_, ?_, ?_, ?_, ?_, ?_, ?_, ?_, ?_, trivial⟩
  · -- nC
    simp only [nC, nS, nF, nR, k0, k3, k4, k5, k6, k7, k8, k9, k11, k13, k14, k15, k16, l0, l1, l2, l3, kb]; exact wo_nC h
  · -- nS
    simp only [nC, nS, nF, nR, k0, k3, k4, k5, k6, k7, k8, k9, k11, k13, k14, k15, k16, l0, l1, l2, l3, kb]; exact wo_nS h
  · -- nF
    simp only [nC, nS, nF, nR, k0, k3, k4, k5, k6, k7, k8, k9, k11, k13, k14, k15, k16, l0, l1, l2, l3, kb]; exact wo_nF h
  · -- nR
    simp only [nC, nS, nF, nR, k0, k3, k4, k5, k6, k7, k8, k9, k11, k13, k14, k15, k16, l0, l1, l2, l3, kb]; exact wo_nR h
  · -- day
    simp only [nC, nS, nF, nR, k0, k3, k4, k5, k6, k7, k8, k9, k11, k13, k14, k15, k16, l0, l1, l2, l3, kb]; exact wo_day h
  · -- term
    simp only [nC, nS, nF, nR, k0, k3, k4, k5, k6, k7, k8, k9, k11, k13, k14, k15, k16, l0, l1, l2, l3, kb]; exact wo_term h
  · -- crd
    intro c2 h2; simp only [nC, l0] at h2; rw [xs_all, if_neg (by omega)]; exact wo_crd h c2 h2
  · -- sea
    intro c2 h2; simp only [nC, l0] at h2; rw [xs_all, if_neg (by omega)]; exact wo_sea h c2 h2
  · -- req
    intro c2 h2; simp only [nC, nF, l0, l2] at *; rw [xs_all]; split; (exact hf); (exact wo_req h c2 h2)
  · -- res
    simp only [nC, nS, nF, nR, k0, k3, k4, k5, k6, k7, k8, k9, k11, k13, k14, k15, k16, l0, l1, l2, l3, kb]; exact wo_res h
  · -- wN
    simp only [nC, nS, nF, nR, k0, k3, k4, k5, k6, k7, k8, k9, k11, k13, k14, k15, k16, l0, l1, l2, l3, kb]; exact wo_wN h
  · -- wA
    simp only [nC, nS, nF, nR, k0, k3, k4, k5, k6, k7, k8, k9, k11, k13, k14, k15, k16, l0, l1, l2, l3, kb]; exact wo_wA h
  · -- maj
    simp only [nC, nS, nF, nR, k0, k3, k4, k5, k6, k7, k8, k9, k11, k13, k14, k15, k16, l0, l1, l2, l3, kb]; exact wo_maj h
  · -- t01
    simp only [nC, nS, nF, nR, k0, k3, k4, k5, k6, k7, k8, k9, k11, k13, k14, k15, k16, l0, l1, l2, l3, kb]; exact wo_t01 h
  · -- m01
    simp only [nC, nS, nF, nR, k0, k3, k4, k5, k6, k7, k8, k9, k11, k13, k14, k15, k16, l0, l1, l2, l3, kb]; exact wo_m01 h
  · -- tm
    simp only [nC, nS, nF, nR, k0, k3, k4, k5, k6, k7, k8, k9, k11, k13, k14, k15, k16, l0, l1, l2, l3, kb]; exact wo_tm h
  · -- bst
    simp only [nC, nS, nF, nR, k0, k3, k4, k5, k6, k7, k8, k9, k11, k13, k14, k15, k16, l0, l1, l2, l3, kb]; exact wo_bst h
  · -- tri
    simp only [nC, nS, nF, nR, k0, k3, k4, k5, k6, k7, k8, k9, k11, k13, k14, k15, k16, l0, l1, l2, l3, kb]; exact wo_tri h
  · -- trd
    simp only [nC, nS, nF, nR, k0, k3, k4, k5, k6, k7, k8, k9, k11, k13, k14, k15, k16, l0, l1, l2, l3, kb]; exact wo_trd h
  · -- bsq
    simp only [nC, nS, nF, nR, k0, k3, k4, k5, k6, k7, k8, k9, k11, k13, k14, k15, k16, l0, l1, l2, l3, kb]; exact wo_bsq h
  · -- far
    simp only [nC, nS, nF, nR, k0, k3, k4, k5, k6, k7, k8, k9, k11, k13, k14, k15, k16, l0, l1, l2, l3, kb]; exact wo_far h
  · -- dep
    simp only [nC, nS, nF, nR, k0, k3, k4, k5, k6, k7, k8, k9, k11, k13, k14, k15, k16, l0, l1, l2, l3, kb]; exact wo_dep h
  · -- dp0
    simp only [nC, nS, nF, nR, k0, k3, k4, k5, k6, k7, k8, k9, k11, k13, k14, k15, k16, l0, l1, l2, l3, kb]; exact wo_dp0 h
  · -- fk
    simp only [nC, nS, nF, nR, k0, k3, k4, k5, k6, k7, k8, k9, k11, k13, k14, k15, k16, l0, l1, l2, l3, kb]; exact wo_fk h
  · -- f0
    simp only [nC, nS, nF, nR, k0, k3, k4, k5, k6, k7, k8, k9, k11, k13, k14, k15, k16, l0, l1, l2, l3, kb]; exact wo_f0 h
  · -- f1
    simp only [nC, nS, nF, nR, k0, k3, k4, k5, k6, k7, k8, k9, k11, k13, k14, k15, k16, l0, l1, l2, l3, kb]; exact wo_f1 h
  · -- f2
    simp only [nC, nS, nF, nR, k0, k3, k4, k5, k6, k7, k8, k9, k11, k13, k14, k15, k16, l0, l1, l2, l3, kb]; exact wo_f2 h
  · -- f3
    simp only [nC, nS, nF, nR, k0, k3, k4, k5, k6, k7, k8, k9, k11, k13, k14, k15, k16, l0, l1, l2, l3, kb]; exact wo_f3 h
  · -- f4
    simp only [nC, nS, nF, nR, k0, k3, k4, k5, k6, k7, k8, k9, k11, k13, k14, k15, k16, l0, l1, l2, l3, kb]; exact wo_f4 h
  · -- rul
    simp only [nC, nS, nF, nR, k0, k3, k4, k5, k6, k7, k8, k9, k11, k13, k14, k15, k16, l0, l1, l2, l3, kb]; exact wo_rul h
  · -- r01
    simp only [nC, nS, nF, nR, k0, k3, k4, k5, k6, k7, k8, k9, k11, k13, k14, k15, k16, l0, l1, l2, l3, kb]; exact wo_r01 h
  · -- rm4
    simp only [nC, nS, nF, nR, k0, k3, k4, k5, k6, k7, k8, k9, k11, k13, k14, k15, k16, l0, l1, l2, l3, kb]; exact wo_rm4 h
  · -- tk3
    simp only [nC, nS, nF, nR, k0, k3, k4, k5, k6, k7, k8, k9, k11, k13, k14, k15, k16, l0, l1, l2, l3, kb]; exact wo_tk3 h
  · -- w6
    simp only [nC, nS, nF, nR, k0, k3, k4, k5, k6, k7, k8, k9, k11, k13, k14, k15, k16, l0, l1, l2, l3, kb]; exact wo_w6 h
  · -- wt3
    simp only [nC, nS, nF, nR, k0, k3, k4, k5, k6, k7, k8, k9, k11, k13, k14, k15, k16, l0, l1, l2, l3, kb]; exact wo_wt3 h
  · -- deg
    simp only [nC, nS, nF, nR, k0, k3, k4, k5, k6, k7, k8, k9, k11, k13, k14, k15, k16, l0, l1, l2, l3, kb]; exact wo_deg h
  · -- f7
    simp only [nC, nS, nF, nR, k0, k3, k4, k5, k6, k7, k8, k9, k11, k13, k14, k15, k16, l0, l1, l2, l3, kb]; exact wo_f7 h
theorem wx_rq {ν : Nat → Nat → Bool} {X : XM} (h : WX ν X) {c : Nat} {f : Int} (hf : -1 ≤ f ∧ f < nF X) : WX ν (xs X 12 c 5 f) := ⟨wo_rq h.1 hf, wv_k h.2 (xs_nk (by decide)) (xs_nk (by decide))⟩
set_option linter.unusedVariables false
set_option maxHeartbeats 2000000 in
theorem wo_mk {X : XM} (h : WO X) {s c : Nat} {m : Int} (hc : (c : Int) < nC X) (hm : -1 ≤ m ∧ m ≤ 100) : WO (xs X 7 s c m) := by
  have m1 : (xs X 7 s c m) 1 = X 1 := xs_nk (by decide)
  have m2 : (xs X 7 s c m) 2 = X 2 := xs_nk (by decide)
  have k0 : (xs X 7 s c m) 0 = X 0 := xs_nk (by decide)
  have k3 : (xs X 7 s c m) 3 = X 3 := xs_nk (by decide)
  have k4 : (xs X 7 s c m) 4 = X 4 := xs_nk (by decide)
  have k5 : (xs X 7 s c m) 5 = X 5 := xs_nk (by decide)
  have k6 : (xs X 7 s c m) 6 = X 6 := xs_nk (by decide)
  have k8 : (xs X 7 s c m) 8 = X 8 := xs_nk (by decide)
  have k9 : (xs X 7 s c m) 9 = X 9 := xs_nk (by decide)
  have k11 : (xs X 7 s c m) 11 = X 11 := xs_nk (by decide)
  have k12 : (xs X 7 s c m) 12 = X 12 := xs_nk (by decide)
  have k13 : (xs X 7 s c m) 13 = X 13 := xs_nk (by decide)
  have k14 : (xs X 7 s c m) 14 = X 14 := xs_nk (by decide)
  have k15 : (xs X 7 s c m) 15 = X 15 := xs_nk (by decide)
  have k16 : (xs X 7 s c m) 16 = X 16 := xs_nk (by decide)
  have l0 : (xs X 7 s c m) 1 0 2 = X 1 0 2 := by rw [xs_nk (by decide)]
  have l1 : (xs X 7 s c m) 1 1 2 = X 1 1 2 := by rw [xs_nk (by decide)]
  have l2 : (xs X 7 s c m) 1 2 2 = X 1 2 2 := by rw [xs_nk (by decide)]
  have l3 : (xs X 7 s c m) 1 3 2 = X 1 3 2 := by rw [xs_nk (by decide)]
  have kb : bsT (xs X 7 s c m) = bsT X := bsT_cg k6 k11
  refine ⟨?_, ?_, ?_, ?_, ?_, ?_, ?_, ?_, ?_, ?_, ?_, ?_, ?_, ?_, ?_, ?_, ?_, ?_, ?_, ?_, ?_, ?_, ?_, ?_, ?_, ?_, ?_, ?_, ?_, ?_, ?_, ?_, ?_, ?_, ?_, ?_, ?_, trivial⟩
  · -- nC
    simp only [nC, nS, nF, nR, k0, k3, k4, k5, k6, k8, k9, k11, k12, k13, k14, k15, k16, l0, l1, l2, l3, kb]; exact wo_nC h
  · -- nS
    simp only [nC, nS, nF, nR, k0, k3, k4, k5, k6, k8, k9, k11, k12, k13, k14, k15, k16, l0, l1, l2, l3, kb]; exact wo_nS h
  · -- nF
    simp only [nC, nS, nF, nR, k0, k3, k4, k5, k6, k8, k9, k11, k12, k13, k14, k15, k16, l0, l1, l2, l3, kb]; exact wo_nF h
  · -- nR
    simp only [nC, nS, nF, nR, k0, k3, k4, k5, k6, k8, k9, k11, k12, k13, k14, k15, k16, l0, l1, l2, l3, kb]; exact wo_nR h
  · -- day
    simp only [nC, nS, nF, nR, k0, k3, k4, k5, k6, k8, k9, k11, k12, k13, k14, k15, k16, l0, l1, l2, l3, kb]; exact wo_day h
  · -- term
    simp only [nC, nS, nF, nR, k0, k3, k4, k5, k6, k8, k9, k11, k12, k13, k14, k15, k16, l0, l1, l2, l3, kb]; exact wo_term h
  · -- crd
    simp only [nC, nS, nF, nR, k0, k3, k4, k5, k6, k8, k9, k11, k12, k13, k14, k15, k16, l0, l1, l2, l3, kb]; exact wo_crd h
  · -- sea
    simp only [nC, nS, nF, nR, k0, k3, k4, k5, k6, k8, k9, k11, k12, k13, k14, k15, k16, l0, l1, l2, l3, kb]; exact wo_sea h
  · -- req
    simp only [nC, nS, nF, nR, k0, k3, k4, k5, k6, k8, k9, k11, k12, k13, k14, k15, k16, l0, l1, l2, l3, kb]; exact wo_req h
  · -- res
    simp only [nC, nS, nF, nR, k0, k3, k4, k5, k6, k8, k9, k11, k12, k13, k14, k15, k16, l0, l1, l2, l3, kb]; exact wo_res h
  · -- wN
    simp only [nC, nS, nF, nR, k0, k3, k4, k5, k6, k8, k9, k11, k12, k13, k14, k15, k16, l0, l1, l2, l3, kb]; exact wo_wN h
  · -- wA
    simp only [nC, nS, nF, nR, k0, k3, k4, k5, k6, k8, k9, k11, k12, k13, k14, k15, k16, l0, l1, l2, l3, kb]; exact wo_wA h
  · -- maj
    simp only [nC, nS, nF, nR, k0, k3, k4, k5, k6, k8, k9, k11, k12, k13, k14, k15, k16, l0, l1, l2, l3, kb]; exact wo_maj h
  · -- t01
    simp only [nC, nS, nF, nR, k0, k3, k4, k5, k6, k8, k9, k11, k12, k13, k14, k15, k16, l0, l1, l2, l3, kb]; exact wo_t01 h
  · -- m01
    simp only [nC, nS, nF, nR, k0, k3, k4, k5, k6, k8, k9, k11, k12, k13, k14, k15, k16, l0, l1, l2, l3, kb]; exact wo_m01 h
  · -- tm
    intro s2 c2 h2 h3; simp only [nS, l1] at h2; rw [xs_all]; split; (exact hm); (exact wo_tm h s2 c2 h2 h3)
  · -- bst
    simp only [nC, nS, nF, nR, k0, k3, k4, k5, k6, k8, k9, k11, k12, k13, k14, k15, k16, l0, l1, l2, l3, kb]; exact wo_bst h
  · -- tri
    simp only [nC, nS, nF, nR, k0, k3, k4, k5, k6, k8, k9, k11, k12, k13, k14, k15, k16, l0, l1, l2, l3, kb]; exact wo_tri h
  · -- trd
    simp only [nC, nS, nF, nR, k0, k3, k4, k5, k6, k8, k9, k11, k12, k13, k14, k15, k16, l0, l1, l2, l3, kb]; exact wo_trd h
  · -- bsq
    simp only [nC, nS, nF, nR, k0, k3, k4, k5, k6, k8, k9, k11, k12, k13, k14, k15, k16, l0, l1, l2, l3, kb]; exact wo_bsq h
  · -- far
    simp only [nC, nS, nF, nR, k0, k3, k4, k5, k6, k8, k9, k11, k12, k13, k14, k15, k16, l0, l1, l2, l3, kb]; exact wo_far h
  · -- dep
    simp only [nC, nS, nF, nR, k0, k3, k4, k5, k6, k8, k9, k11, k12, k13, k14, k15, k16, l0, l1, l2, l3, kb]; exact wo_dep h
  · -- dp0
    simp only [nC, nS, nF, nR, k0, k3, k4, k5, k6, k8, k9, k11, k12, k13, k14, k15, k16, l0, l1, l2, l3, kb]; exact wo_dp0 h
  · -- fk
    simp only [nC, nS, nF, nR, k0, k3, k4, k5, k6, k8, k9, k11, k12, k13, k14, k15, k16, l0, l1, l2, l3, kb]; exact wo_fk h
  · -- f0
    simp only [nC, nS, nF, nR, k0, k3, k4, k5, k6, k8, k9, k11, k12, k13, k14, k15, k16, l0, l1, l2, l3, kb]; exact wo_f0 h
  · -- f1
    simp only [nC, nS, nF, nR, k0, k3, k4, k5, k6, k8, k9, k11, k12, k13, k14, k15, k16, l0, l1, l2, l3, kb]; exact wo_f1 h
  · -- f2
    simp only [nC, nS, nF, nR, k0, k3, k4, k5, k6, k8, k9, k11, k12, k13, k14, k15, k16, l0, l1, l2, l3, kb]; exact wo_f2 h
  · -- f3
    simp only [nC, nS, nF, nR, k0, k3, k4, k5, k6, k8, k9, k11, k12, k13, k14, k15, k16, l0, l1, l2, l3, kb]; exact wo_f3 h
  · -- f4
    simp only [nC, nS, nF, nR, k0, k3, k4, k5, k6, k8, k9, k11, k12, k13, k14, k15, k16, l0, l1, l2, l3, kb]; exact wo_f4 h
  · -- rul
    simp only [nC, nS, nF, nR, k0, k3, k4, k5, k6, k8, k9, k11, k12, k13, k14, k15, k16, l0, l1, l2, l3, kb]; exact wo_rul h
  · -- r01
    simp only [nC, nS, nF, nR, k0, k3, k4, k5, k6, k8, k9, k11, k12, k13, k14, k15, k16, l0, l1, l2, l3, kb]; exact wo_r01 h
  · -- rm4
    simp only [nC, nS, nF, nR, k0, k3, k4, k5, k6, k8, k9, k11, k12, k13, k14, k15, k16, l0, l1, l2, l3, kb]; exact wo_rm4 h
  · -- tk3
    simp only [nC, nS, nF, nR, k0, k3, k4, k5, k6, k8, k9, k11, k12, k13, k14, k15, k16, l0, l1, l2, l3, kb]; exact wo_tk3 h
  · -- w6
    simp only [nC, nS, nF, nR, k0, k3, k4, k5, k6, k8, k9, k11, k12, k13, k14, k15, k16, l0, l1, l2, l3, kb]; exact wo_w6 h
  · -- wt3
    simp only [nC, nS, nF, nR, k0, k3, k4, k5, k6, k8, k9, k11, k12, k13, k14, k15, k16, l0, l1, l2, l3, kb]; exact wo_wt3 h
  · -- deg
    simp only [nC, nS, nF, nR, k0, k3, k4, k5, k6, k8, k9, k11, k12, k13, k14, k15, k16, l0, l1, l2, l3, kb]; exact wo_deg h
  · -- f7
    intro s2 c2 h2 h3 h4; simp only [nC, nS, l0, l1] at h2 h3; have hc2 : (c : Int) < X 1 0 2 := hc; rw [xs_all, if_neg (by omega)]; exact wo_f7 h s2 c2 h2 h3 h4
theorem wx_mk {ν : Nat → Nat → Bool} {X : XM} (h : WX ν X) {s c : Nat} {m : Int} (hc : (c : Int) < nC X) (hm : -1 ≤ m ∧ m ≤ 100) : WX ν (xs X 7 s c m) := ⟨wo_mk h.1 hc hm, wv_k h.2 (xs_nk (by decide)) (xs_nk (by decide))⟩
set_option linter.unusedVariables false
set_option maxHeartbeats 2000000 in
theorem wo_dg {X : XM} (h : WO X) {m : Nat} {n : Int} (hn : 0 ≤ n ∧ n ≤ 120) : WO (xs X 3 0 m n) := by
  have m1 : (xs X 3 0 m n) 1 = X 1 := xs_nk (by decide)
  have m2 : (xs X 3 0 m n) 2 = X 2 := xs_nk (by decide)
  have k0 : (xs X 3 0 m n) 0 = X 0 := xs_nk (by decide)
  have k4 : (xs X 3 0 m n) 4 = X 4 := xs_nk (by decide)
  have k5 : (xs X 3 0 m n) 5 = X 5 := xs_nk (by decide)
  have k6 : (xs X 3 0 m n) 6 = X 6 := xs_nk (by decide)
  have k7 : (xs X 3 0 m n) 7 = X 7 := xs_nk (by decide)
  have k8 : (xs X 3 0 m n) 8 = X 8 := xs_nk (by decide)
  have k9 : (xs X 3 0 m n) 9 = X 9 := xs_nk (by decide)
  have k11 : (xs X 3 0 m n) 11 = X 11 := xs_nk (by decide)
  have k12 : (xs X 3 0 m n) 12 = X 12 := xs_nk (by decide)
  have k13 : (xs X 3 0 m n) 13 = X 13 := xs_nk (by decide)
  have k14 : (xs X 3 0 m n) 14 = X 14 := xs_nk (by decide)
  have k15 : (xs X 3 0 m n) 15 = X 15 := xs_nk (by decide)
  have k16 : (xs X 3 0 m n) 16 = X 16 := xs_nk (by decide)
  have l0 : (xs X 3 0 m n) 1 0 2 = X 1 0 2 := by rw [xs_nk (by decide)]
  have l1 : (xs X 3 0 m n) 1 1 2 = X 1 1 2 := by rw [xs_nk (by decide)]
  have l2 : (xs X 3 0 m n) 1 2 2 = X 1 2 2 := by rw [xs_nk (by decide)]
  have l3 : (xs X 3 0 m n) 1 3 2 = X 1 3 2 := by rw [xs_nk (by decide)]
  have kb : bsT (xs X 3 0 m n) = bsT X := bsT_cg k6 k11
  refine ⟨?_, ?_, ?_, ?_, ?_, ?_, ?_, ?_, ?_, ?_, ?_, ?_, ?_, ?_, ?_, ?_, ?_, ?_, ?_, ?_, ?_, ?_, ?_, ?_, ?_, ?_, ?_, ?_, ?_, ?_, ?_, ?_, ?_, ?_, ?_, ?_, ?_, trivial⟩
  · -- nC
    simp only [nC, nS, nF, nR, k0, k4, k5, k6, k7, k8, k9, k11, k12, k13, k14, k15, k16, l0, l1, l2, l3, kb]; exact wo_nC h
  · -- nS
    simp only [nC, nS, nF, nR, k0, k4, k5, k6, k7, k8, k9, k11, k12, k13, k14, k15, k16, l0, l1, l2, l3, kb]; exact wo_nS h
  · -- nF
    simp only [nC, nS, nF, nR, k0, k4, k5, k6, k7, k8, k9, k11, k12, k13, k14, k15, k16, l0, l1, l2, l3, kb]; exact wo_nF h
  · -- nR
    simp only [nC, nS, nF, nR, k0, k4, k5, k6, k7, k8, k9, k11, k12, k13, k14, k15, k16, l0, l1, l2, l3, kb]; exact wo_nR h
  · -- day
    simp only [nC, nS, nF, nR, k0, k4, k5, k6, k7, k8, k9, k11, k12, k13, k14, k15, k16, l0, l1, l2, l3, kb]; exact wo_day h
  · -- term
    simp only [nC, nS, nF, nR, k0, k4, k5, k6, k7, k8, k9, k11, k12, k13, k14, k15, k16, l0, l1, l2, l3, kb]; exact wo_term h
  · -- crd
    simp only [nC, nS, nF, nR, k0, k4, k5, k6, k7, k8, k9, k11, k12, k13, k14, k15, k16, l0, l1, l2, l3, kb]; exact wo_crd h
  · -- sea
    simp only [nC, nS, nF, nR, k0, k4, k5, k6, k7, k8, k9, k11, k12, k13, k14, k15, k16, l0, l1, l2, l3, kb]; exact wo_sea h
  · -- req
    simp only [nC, nS, nF, nR, k0, k4, k5, k6, k7, k8, k9, k11, k12, k13, k14, k15, k16, l0, l1, l2, l3, kb]; exact wo_req h
  · -- res
    simp only [nC, nS, nF, nR, k0, k4, k5, k6, k7, k8, k9, k11, k12, k13, k14, k15, k16, l0, l1, l2, l3, kb]; exact wo_res h
  · -- wN
    simp only [nC, nS, nF, nR, k0, k4, k5, k6, k7, k8, k9, k11, k12, k13, k14, k15, k16, l0, l1, l2, l3, kb]; exact wo_wN h
  · -- wA
    simp only [nC, nS, nF, nR, k0, k4, k5, k6, k7, k8, k9, k11, k12, k13, k14, k15, k16, l0, l1, l2, l3, kb]; exact wo_wA h
  · -- maj
    simp only [nC, nS, nF, nR, k0, k4, k5, k6, k7, k8, k9, k11, k12, k13, k14, k15, k16, l0, l1, l2, l3, kb]; exact wo_maj h
  · -- t01
    simp only [nC, nS, nF, nR, k0, k4, k5, k6, k7, k8, k9, k11, k12, k13, k14, k15, k16, l0, l1, l2, l3, kb]; exact wo_t01 h
  · -- m01
    simp only [nC, nS, nF, nR, k0, k4, k5, k6, k7, k8, k9, k11, k12, k13, k14, k15, k16, l0, l1, l2, l3, kb]; exact wo_m01 h
  · -- tm
    simp only [nC, nS, nF, nR, k0, k4, k5, k6, k7, k8, k9, k11, k12, k13, k14, k15, k16, l0, l1, l2, l3, kb]; exact wo_tm h
  · -- bst
    simp only [nC, nS, nF, nR, k0, k4, k5, k6, k7, k8, k9, k11, k12, k13, k14, k15, k16, l0, l1, l2, l3, kb]; exact wo_bst h
  · -- tri
    simp only [nC, nS, nF, nR, k0, k4, k5, k6, k7, k8, k9, k11, k12, k13, k14, k15, k16, l0, l1, l2, l3, kb]; exact wo_tri h
  · -- trd
    simp only [nC, nS, nF, nR, k0, k4, k5, k6, k7, k8, k9, k11, k12, k13, k14, k15, k16, l0, l1, l2, l3, kb]; exact wo_trd h
  · -- bsq
    simp only [nC, nS, nF, nR, k0, k4, k5, k6, k7, k8, k9, k11, k12, k13, k14, k15, k16, l0, l1, l2, l3, kb]; exact wo_bsq h
  · -- far
    simp only [nC, nS, nF, nR, k0, k4, k5, k6, k7, k8, k9, k11, k12, k13, k14, k15, k16, l0, l1, l2, l3, kb]; exact wo_far h
  · -- dep
    simp only [nC, nS, nF, nR, k0, k4, k5, k6, k7, k8, k9, k11, k12, k13, k14, k15, k16, l0, l1, l2, l3, kb]; exact wo_dep h
  · -- dp0
    simp only [nC, nS, nF, nR, k0, k4, k5, k6, k7, k8, k9, k11, k12, k13, k14, k15, k16, l0, l1, l2, l3, kb]; exact wo_dp0 h
  · -- fk
    simp only [nC, nS, nF, nR, k0, k4, k5, k6, k7, k8, k9, k11, k12, k13, k14, k15, k16, l0, l1, l2, l3, kb]; exact wo_fk h
  · -- f0
    simp only [nC, nS, nF, nR, k0, k4, k5, k6, k7, k8, k9, k11, k12, k13, k14, k15, k16, l0, l1, l2, l3, kb]; exact wo_f0 h
  · -- f1
    simp only [nC, nS, nF, nR, k0, k4, k5, k6, k7, k8, k9, k11, k12, k13, k14, k15, k16, l0, l1, l2, l3, kb]; exact wo_f1 h
  · -- f2
    simp only [nC, nS, nF, nR, k0, k4, k5, k6, k7, k8, k9, k11, k12, k13, k14, k15, k16, l0, l1, l2, l3, kb]; exact wo_f2 h
  · -- f3
    simp only [nC, nS, nF, nR, k0, k4, k5, k6, k7, k8, k9, k11, k12, k13, k14, k15, k16, l0, l1, l2, l3, kb]; exact wo_f3 h
  · -- f4
    simp only [nC, nS, nF, nR, k0, k4, k5, k6, k7, k8, k9, k11, k12, k13, k14, k15, k16, l0, l1, l2, l3, kb]; exact wo_f4 h
  · -- rul
    simp only [nC, nS, nF, nR, k0, k4, k5, k6, k7, k8, k9, k11, k12, k13, k14, k15, k16, l0, l1, l2, l3, kb]; exact wo_rul h
  · -- r01
    simp only [nC, nS, nF, nR, k0, k4, k5, k6, k7, k8, k9, k11, k12, k13, k14, k15, k16, l0, l1, l2, l3, kb]; exact wo_r01 h
  · -- rm4
    simp only [nC, nS, nF, nR, k0, k4, k5, k6, k7, k8, k9, k11, k12, k13, k14, k15, k16, l0, l1, l2, l3, kb]; exact wo_rm4 h
  · -- tk3
    simp only [nC, nS, nF, nR, k0, k4, k5, k6, k7, k8, k9, k11, k12, k13, k14, k15, k16, l0, l1, l2, l3, kb]; exact wo_tk3 h
  · -- w6
    simp only [nC, nS, nF, nR, k0, k4, k5, k6, k7, k8, k9, k11, k12, k13, k14, k15, k16, l0, l1, l2, l3, kb]; exact wo_w6 h
  · -- wt3
    simp only [nC, nS, nF, nR, k0, k4, k5, k6, k7, k8, k9, k11, k12, k13, k14, k15, k16, l0, l1, l2, l3, kb]; exact wo_wt3 h
  · -- deg
    intro m2 h2; rw [xs_all]; split; (exact hn); (exact wo_deg h m2 h2)
  · -- f7
    simp only [nC, nS, nF, nR, k0, k4, k5, k6, k7, k8, k9, k11, k12, k13, k14, k15, k16, l0, l1, l2, l3, kb]; exact wo_f7 h
theorem wx_dg {ν : Nat → Nat → Bool} {X : XM} (h : WX ν X) {m : Nat} {n : Int} (hn : 0 ≤ n ∧ n ≤ 120) : WX ν (xs X 3 0 m n) := ⟨wo_dg h.1 hn, wv_k h.2 (xs_nk (by decide)) (xs_nk (by decide))⟩
set_option linter.unusedVariables false
set_option maxHeartbeats 2000000 in
theorem wo_al {X : XM} (h : WO X) {r c : Nat} : WO (xs X 15 r c 1) := by
  have m1 : (xs X 15 r c 1) 1 = X 1 := xs_nk (by decide)
  have m2 : (xs X 15 r c 1) 2 = X 2 := xs_nk (by decide)
  have k0 : (xs X 15 r c 1) 0 = X 0 := xs_nk (by decide)
  have k3 : (xs X 15 r c 1) 3 = X 3 := xs_nk (by decide)
  have k4 : (xs X 15 r c 1) 4 = X 4 := xs_nk (by decide)
  have k5 : (xs X 15 r c 1) 5 = X 5 := xs_nk (by decide)
  have k6 : (xs X 15 r c 1) 6 = X 6 := xs_nk (by decide)
  have k7 : (xs X 15 r c 1) 7 = X 7 := xs_nk (by decide)
  have k8 : (xs X 15 r c 1) 8 = X 8 := xs_nk (by decide)
  have k9 : (xs X 15 r c 1) 9 = X 9 := xs_nk (by decide)
  have k11 : (xs X 15 r c 1) 11 = X 11 := xs_nk (by decide)
  have k12 : (xs X 15 r c 1) 12 = X 12 := xs_nk (by decide)
  have k13 : (xs X 15 r c 1) 13 = X 13 := xs_nk (by decide)
  have k14 : (xs X 15 r c 1) 14 = X 14 := xs_nk (by decide)
  have k16 : (xs X 15 r c 1) 16 = X 16 := xs_nk (by decide)
  have l0 : (xs X 15 r c 1) 1 0 2 = X 1 0 2 := by rw [xs_nk (by decide)]
  have l1 : (xs X 15 r c 1) 1 1 2 = X 1 1 2 := by rw [xs_nk (by decide)]
  have l2 : (xs X 15 r c 1) 1 2 2 = X 1 2 2 := by rw [xs_nk (by decide)]
  have l3 : (xs X 15 r c 1) 1 3 2 = X 1 3 2 := by rw [xs_nk (by decide)]
  have kb : bsT (xs X 15 r c 1) = bsT X := bsT_cg k6 k11
  refine ⟨?_, ?_, ?_, ?_, ?_, ?_, ?_, ?_, ?_, ?_, ?_, ?_, ?_, ?_, ?_, ?_, ?_, ?_, ?_, ?_, ?_, ?_, ?_, ?_, ?_, ?_, ?_, ?_, ?_, ?_, ?_, ?_, ?_, ?_, ?_, ?_, ?_, trivial⟩
  · -- nC
    simp only [nC, nS, nF, nR, k0, k3, k4, k5, k6, k7, k8, k9, k11, k12, k13, k14, k16, l0, l1, l2, l3, kb]; exact wo_nC h
  · -- nS
    simp only [nC, nS, nF, nR, k0, k3, k4, k5, k6, k7, k8, k9, k11, k12, k13, k14, k16, l0, l1, l2, l3, kb]; exact wo_nS h
  · -- nF
    simp only [nC, nS, nF, nR, k0, k3, k4, k5, k6, k7, k8, k9, k11, k12, k13, k14, k16, l0, l1, l2, l3, kb]; exact wo_nF h
  · -- nR
    simp only [nC, nS, nF, nR, k0, k3, k4, k5, k6, k7, k8, k9, k11, k12, k13, k14, k16, l0, l1, l2, l3, kb]; exact wo_nR h
  · -- day
    simp only [nC, nS, nF, nR, k0, k3, k4, k5, k6, k7, k8, k9, k11, k12, k13, k14, k16, l0, l1, l2, l3, kb]; exact wo_day h
  · -- term
    simp only [nC, nS, nF, nR, k0, k3, k4, k5, k6, k7, k8, k9, k11, k12, k13, k14, k16, l0, l1, l2, l3, kb]; exact wo_term h
  · -- crd
    simp only [nC, nS, nF, nR, k0, k3, k4, k5, k6, k7, k8, k9, k11, k12, k13, k14, k16, l0, l1, l2, l3, kb]; exact wo_crd h
  · -- sea
    simp only [nC, nS, nF, nR, k0, k3, k4, k5, k6, k7, k8, k9, k11, k12, k13, k14, k16, l0, l1, l2, l3, kb]; exact wo_sea h
  · -- req
    simp only [nC, nS, nF, nR, k0, k3, k4, k5, k6, k7, k8, k9, k11, k12, k13, k14, k16, l0, l1, l2, l3, kb]; exact wo_req h
  · -- res
    simp only [nC, nS, nF, nR, k0, k3, k4, k5, k6, k7, k8, k9, k11, k12, k13, k14, k16, l0, l1, l2, l3, kb]; exact wo_res h
  · -- wN
    simp only [nC, nS, nF, nR, k0, k3, k4, k5, k6, k7, k8, k9, k11, k12, k13, k14, k16, l0, l1, l2, l3, kb]; exact wo_wN h
  · -- wA
    simp only [nC, nS, nF, nR, k0, k3, k4, k5, k6, k7, k8, k9, k11, k12, k13, k14, k16, l0, l1, l2, l3, kb]; exact wo_wA h
  · -- maj
    simp only [nC, nS, nF, nR, k0, k3, k4, k5, k6, k7, k8, k9, k11, k12, k13, k14, k16, l0, l1, l2, l3, kb]; exact wo_maj h
  · -- t01
    simp only [nC, nS, nF, nR, k0, k3, k4, k5, k6, k7, k8, k9, k11, k12, k13, k14, k16, l0, l1, l2, l3, kb]; exact wo_t01 h
  · -- m01
    simp only [nC, nS, nF, nR, k0, k3, k4, k5, k6, k7, k8, k9, k11, k12, k13, k14, k16, l0, l1, l2, l3, kb]; exact wo_m01 h
  · -- tm
    simp only [nC, nS, nF, nR, k0, k3, k4, k5, k6, k7, k8, k9, k11, k12, k13, k14, k16, l0, l1, l2, l3, kb]; exact wo_tm h
  · -- bst
    simp only [nC, nS, nF, nR, k0, k3, k4, k5, k6, k7, k8, k9, k11, k12, k13, k14, k16, l0, l1, l2, l3, kb]; exact wo_bst h
  · -- tri
    simp only [nC, nS, nF, nR, k0, k3, k4, k5, k6, k7, k8, k9, k11, k12, k13, k14, k16, l0, l1, l2, l3, kb]; exact wo_tri h
  · -- trd
    simp only [nC, nS, nF, nR, k0, k3, k4, k5, k6, k7, k8, k9, k11, k12, k13, k14, k16, l0, l1, l2, l3, kb]; exact wo_trd h
  · -- bsq
    simp only [nC, nS, nF, nR, k0, k3, k4, k5, k6, k7, k8, k9, k11, k12, k13, k14, k16, l0, l1, l2, l3, kb]; exact wo_bsq h
  · -- far
    simp only [nC, nS, nF, nR, k0, k3, k4, k5, k6, k7, k8, k9, k11, k12, k13, k14, k16, l0, l1, l2, l3, kb]; exact wo_far h
  · -- dep
    simp only [nC, nS, nF, nR, k0, k3, k4, k5, k6, k7, k8, k9, k11, k12, k13, k14, k16, l0, l1, l2, l3, kb]; exact wo_dep h
  · -- dp0
    simp only [nC, nS, nF, nR, k0, k3, k4, k5, k6, k7, k8, k9, k11, k12, k13, k14, k16, l0, l1, l2, l3, kb]; exact wo_dp0 h
  · -- fk
    simp only [nC, nS, nF, nR, k0, k3, k4, k5, k6, k7, k8, k9, k11, k12, k13, k14, k16, l0, l1, l2, l3, kb]; exact wo_fk h
  · -- f0
    simp only [nC, nS, nF, nR, k0, k3, k4, k5, k6, k7, k8, k9, k11, k12, k13, k14, k16, l0, l1, l2, l3, kb]; exact wo_f0 h
  · -- f1
    simp only [nC, nS, nF, nR, k0, k3, k4, k5, k6, k7, k8, k9, k11, k12, k13, k14, k16, l0, l1, l2, l3, kb]; exact wo_f1 h
  · -- f2
    simp only [nC, nS, nF, nR, k0, k3, k4, k5, k6, k7, k8, k9, k11, k12, k13, k14, k16, l0, l1, l2, l3, kb]; exact wo_f2 h
  · -- f3
    simp only [nC, nS, nF, nR, k0, k3, k4, k5, k6, k7, k8, k9, k11, k12, k13, k14, k16, l0, l1, l2, l3, kb]; exact wo_f3 h
  · -- f4
    simp only [nC, nS, nF, nR, k0, k3, k4, k5, k6, k7, k8, k9, k11, k12, k13, k14, k16, l0, l1, l2, l3, kb]; exact wo_f4 h
  · -- rul
    simp only [nC, nS, nF, nR, k0, k3, k4, k5, k6, k7, k8, k9, k11, k12, k13, k14, k16, l0, l1, l2, l3, kb]; exact wo_rul h
  · -- r01
    intro r2 c2; rw [xs_all]; split; (exact Or.inr rfl); (exact wo_r01 h r2 c2)
  · -- rm4
    simp only [nC, nS, nF, nR, k0, k3, k4, k5, k6, k7, k8, k9, k11, k12, k13, k14, k16, l0, l1, l2, l3, kb]; exact wo_rm4 h
  · -- tk3
    simp only [nC, nS, nF, nR, k0, k3, k4, k5, k6, k7, k8, k9, k11, k12, k13, k14, k16, l0, l1, l2, l3, kb]; exact wo_tk3 h
  · -- w6
    simp only [nC, nS, nF, nR, k0, k3, k4, k5, k6, k7, k8, k9, k11, k12, k13, k14, k16, l0, l1, l2, l3, kb]; exact wo_w6 h
  · -- wt3
    simp only [nC, nS, nF, nR, k0, k3, k4, k5, k6, k7, k8, k9, k11, k12, k13, k14, k16, l0, l1, l2, l3, kb]; exact wo_wt3 h
  · -- deg
    simp only [nC, nS, nF, nR, k0, k3, k4, k5, k6, k7, k8, k9, k11, k12, k13, k14, k16, l0, l1, l2, l3, kb]; exact wo_deg h
  · -- f7
    simp only [nC, nS, nF, nR, k0, k3, k4, k5, k6, k7, k8, k9, k11, k12, k13, k14, k16, l0, l1, l2, l3, kb]; exact wo_f7 h
theorem wx_al {ν : Nat → Nat → Bool} {X : XM} (h : WX ν X) {r c : Nat} : WX ν (xs X 15 r c 1) := ⟨wo_al h.1 , wv_k h.2 (xs_nk (by decide)) (xs_nk (by decide))⟩
set_option linter.unusedVariables false
set_option maxHeartbeats 2000000 in
theorem wo_dy {X : XM} (h : WO X) {d : Int} (hd : 0 ≤ d ∧ d ≤ 30) (h6 : 5 < d → ∀ c : Nat, (c : Int) < nC X → X 1 (4 + c) 2 = 0) : WO (xs X 0 0 5 d) := by
  have m1 : (xs X 0 0 5 d) 1 = X 1 := xs_nk (by decide)
  have m2 : (xs X 0 0 5 d) 2 = X 2 := xs_nk (by decide)
  have k3 : (xs X 0 0 5 d) 3 = X 3 := xs_nk (by decide)
  have k4 : (xs X 0 0 5 d) 4 = X 4 := xs_nk (by decide)
  have k5 : (xs X 0 0 5 d) 5 = X 5 := xs_nk (by decide)
  have k6 : (xs X 0 0 5 d) 6 = X 6 := xs_nk (by decide)
  have k7 : (xs X 0 0 5 d) 7 = X 7 := xs_nk (by decide)
  have k8 : (xs X 0 0 5 d) 8 = X 8 := xs_nk (by decide)
  have k9 : (xs X 0 0 5 d) 9 = X 9 := xs_nk (by decide)
  have k11 : (xs X 0 0 5 d) 11 = X 11 := xs_nk (by decide)
  have k12 : (xs X 0 0 5 d) 12 = X 12 := xs_nk (by decide)
  have k13 : (xs X 0 0 5 d) 13 = X 13 := xs_nk (by decide)
  have k14 : (xs X 0 0 5 d) 14 = X 14 := xs_nk (by decide)
  have k15 : (xs X 0 0 5 d) 15 = X 15 := xs_nk (by decide)
  have k16 : (xs X 0 0 5 d) 16 = X 16 := xs_nk (by decide)
  have l0 : (xs X 0 0 5 d) 1 0 2 = X 1 0 2 := by rw [xs_nk (by decide)]
  have l1 : (xs X 0 0 5 d) 1 1 2 = X 1 1 2 := by rw [xs_nk (by decide)]
  have l2 : (xs X 0 0 5 d) 1 2 2 = X 1 2 2 := by rw [xs_nk (by decide)]
  have l3 : (xs X 0 0 5 d) 1 3 2 = X 1 3 2 := by rw [xs_nk (by decide)]
  have kb : bsT (xs X 0 0 5 d) = bsT X := bsT_cg k6 k11
  refine ⟨?_, ?_, ?_, ?_, ?_, ?_, ?_, ?_, ?_, ?_, ?_, ?_, ?_, ?_, ?_, ?_, ?_, ?_, ?_, ?_, ?_, ?_, ?_, ?_, ?_, ?_, ?_, ?_, ?_, ?_, ?_, ?_, ?_, ?_, ?_, ?_, ?_, trivial⟩
  · -- nC
    simp only [nC, nS, nF, nR, k3, k4, k5, k6, k7, k8, k9, k11, k12, k13, k14, k15, k16, l0, l1, l2, l3, kb]; exact wo_nC h
  · -- nS
    simp only [nC, nS, nF, nR, k3, k4, k5, k6, k7, k8, k9, k11, k12, k13, k14, k15, k16, l0, l1, l2, l3, kb]; exact wo_nS h
  · -- nF
    simp only [nC, nS, nF, nR, k3, k4, k5, k6, k7, k8, k9, k11, k12, k13, k14, k15, k16, l0, l1, l2, l3, kb]; exact wo_nF h
  · -- nR
    simp only [nC, nS, nF, nR, k3, k4, k5, k6, k7, k8, k9, k11, k12, k13, k14, k15, k16, l0, l1, l2, l3, kb]; exact wo_nR h
  · -- day
    rw [xs_at, if_pos rfl]; exact hd
  · -- term
    rw [xs_at, if_neg (by decide)]; exact wo_term h
  · -- crd
    simp only [nC, nS, nF, nR, k3, k4, k5, k6, k7, k8, k9, k11, k12, k13, k14, k15, k16, l0, l1, l2, l3, kb]; exact wo_crd h
  · -- sea
    simp only [nC, nS, nF, nR, k3, k4, k5, k6, k7, k8, k9, k11, k12, k13, k14, k15, k16, l0, l1, l2, l3, kb]; exact wo_sea h
  · -- req
    simp only [nC, nS, nF, nR, k3, k4, k5, k6, k7, k8, k9, k11, k12, k13, k14, k15, k16, l0, l1, l2, l3, kb]; exact wo_req h
  · -- res
    simp only [nC, nS, nF, nR, k3, k4, k5, k6, k7, k8, k9, k11, k12, k13, k14, k15, k16, l0, l1, l2, l3, kb]; exact wo_res h
  · -- wN
    simp only [nC, nS, nF, nR, k3, k4, k5, k6, k7, k8, k9, k11, k12, k13, k14, k15, k16, l0, l1, l2, l3, kb]; exact wo_wN h
  · -- wA
    simp only [nC, nS, nF, nR, k3, k4, k5, k6, k7, k8, k9, k11, k12, k13, k14, k15, k16, l0, l1, l2, l3, kb]; exact wo_wA h
  · -- maj
    simp only [nC, nS, nF, nR, k3, k4, k5, k6, k7, k8, k9, k11, k12, k13, k14, k15, k16, l0, l1, l2, l3, kb]; exact wo_maj h
  · -- t01
    simp only [nC, nS, nF, nR, k3, k4, k5, k6, k7, k8, k9, k11, k12, k13, k14, k15, k16, l0, l1, l2, l3, kb]; exact wo_t01 h
  · -- m01
    simp only [nC, nS, nF, nR, k3, k4, k5, k6, k7, k8, k9, k11, k12, k13, k14, k15, k16, l0, l1, l2, l3, kb]; exact wo_m01 h
  · -- tm
    simp only [nC, nS, nF, nR, k3, k4, k5, k6, k7, k8, k9, k11, k12, k13, k14, k15, k16, l0, l1, l2, l3, kb]; exact wo_tm h
  · -- bst
    simp only [nC, nS, nF, nR, k3, k4, k5, k6, k7, k8, k9, k11, k12, k13, k14, k15, k16, l0, l1, l2, l3, kb]; exact wo_bst h
  · -- tri
    simp only [nC, nS, nF, nR, k3, k4, k5, k6, k7, k8, k9, k11, k12, k13, k14, k15, k16, l0, l1, l2, l3, kb]; exact wo_tri h
  · -- trd
    simp only [nC, nS, nF, nR, k3, k4, k5, k6, k7, k8, k9, k11, k12, k13, k14, k15, k16, l0, l1, l2, l3, kb]; exact wo_trd h
  · -- bsq
    simp only [nC, nS, nF, nR, k3, k4, k5, k6, k7, k8, k9, k11, k12, k13, k14, k15, k16, l0, l1, l2, l3, kb]; exact wo_bsq h
  · -- far
    simp only [nC, nS, nF, nR, k3, k4, k5, k6, k7, k8, k9, k11, k12, k13, k14, k15, k16, l0, l1, l2, l3, kb]; exact wo_far h
  · -- dep
    simp only [nC, nS, nF, nR, k3, k4, k5, k6, k7, k8, k9, k11, k12, k13, k14, k15, k16, l0, l1, l2, l3, kb]; exact wo_dep h
  · -- dp0
    simp only [nC, nS, nF, nR, k3, k4, k5, k6, k7, k8, k9, k11, k12, k13, k14, k15, k16, l0, l1, l2, l3, kb]; exact wo_dp0 h
  · -- fk
    simp only [nC, nS, nF, nR, k3, k4, k5, k6, k7, k8, k9, k11, k12, k13, k14, k15, k16, l0, l1, l2, l3, kb]; exact wo_fk h
  · -- f0
    simp only [nC, nS, nF, nR, k3, k4, k5, k6, k7, k8, k9, k11, k12, k13, k14, k15, k16, l0, l1, l2, l3, kb]; exact wo_f0 h
  · -- f1
    simp only [nC, nS, nF, nR, k3, k4, k5, k6, k7, k8, k9, k11, k12, k13, k14, k15, k16, l0, l1, l2, l3, kb]; exact wo_f1 h
  · -- f2
    simp only [nC, nS, nF, nR, k3, k4, k5, k6, k7, k8, k9, k11, k12, k13, k14, k15, k16, l0, l1, l2, l3, kb]; exact wo_f2 h
  · -- f3
    simp only [nC, nS, nF, nR, k3, k4, k5, k6, k7, k8, k9, k11, k12, k13, k14, k15, k16, l0, l1, l2, l3, kb]; exact wo_f3 h
  · -- f4
    simp only [nC, nS, nF, nR, k3, k4, k5, k6, k7, k8, k9, k11, k12, k13, k14, k15, k16, l0, l1, l2, l3, kb]; exact wo_f4 h
  · -- rul
    simp only [nC, nS, nF, nR, k3, k4, k5, k6, k7, k8, k9, k11, k12, k13, k14, k15, k16, l0, l1, l2, l3, kb]; exact wo_rul h
  · -- r01
    simp only [nC, nS, nF, nR, k3, k4, k5, k6, k7, k8, k9, k11, k12, k13, k14, k15, k16, l0, l1, l2, l3, kb]; exact wo_r01 h
  · -- rm4
    simp only [nC, nS, nF, nR, k3, k4, k5, k6, k7, k8, k9, k11, k12, k13, k14, k15, k16, l0, l1, l2, l3, kb]; exact wo_rm4 h
  · -- tk3
    simp only [nC, nS, nF, nR, k3, k4, k5, k6, k7, k8, k9, k11, k12, k13, k14, k15, k16, l0, l1, l2, l3, kb]; exact wo_tk3 h
  · -- w6
    intro c h2 h3; simp only [nC, l0] at h2; rw [xs_at, if_pos rfl] at h3; rw [m1]; exact h6 h3 c h2
  · -- wt3
    simp only [nC, nS, nF, nR, k3, k4, k5, k6, k7, k8, k9, k11, k12, k13, k14, k15, k16, l0, l1, l2, l3, kb]; exact wo_wt3 h
  · -- deg
    simp only [nC, nS, nF, nR, k3, k4, k5, k6, k7, k8, k9, k11, k12, k13, k14, k15, k16, l0, l1, l2, l3, kb]; exact wo_deg h
  · -- f7
    simp only [nC, nS, nF, nR, k3, k4, k5, k6, k7, k8, k9, k11, k12, k13, k14, k15, k16, l0, l1, l2, l3, kb]; exact wo_f7 h
theorem wx_dy {ν : Nat → Nat → Bool} {X : XM} (h : WX ν X) {d : Int} (hd : 0 ≤ d ∧ d ≤ 30) (h6 : 5 < d → ∀ c : Nat, (c : Int) < nC X → X 1 (4 + c) 2 = 0) : WX ν (xs X 0 0 5 d) := ⟨wo_dy h.1 hd h6, wv_k h.2 (xs_nk (by decide)) (xs_nk (by decide))⟩
set_option linter.unusedVariables false
set_option maxHeartbeats 2000000 in
theorem rm_cm {O X X' : XM} (h : RM O X) {s : Nat} {m : Int} (hx : ∀ k, 40 ≤ k → k ≤ 68 → k ≠ 51 → X' k = X k) (h51 : ∀ j, X' 51 0 j = if j = s then m else X 51 0 j) : RM (xs O 4 s 0 m) X' := by
  have k0 : (xs O 4 s 0 m) 0 = O 0 := xs_nk (by decide)
  have k3 : (xs O 4 s 0 m) 3 = O 3 := xs_nk (by decide)
  have k5 : (xs O 4 s 0 m) 5 = O 5 := xs_nk (by decide)
  have k6 : (xs O 4 s 0 m) 6 = O 6 := xs_nk (by decide)
  have k7 : (xs O 4 s 0 m) 7 = O 7 := xs_nk (by decide)
  have k8 : (xs O 4 s 0 m) 8 = O 8 := xs_nk (by decide)
  have k9 : (xs O 4 s 0 m) 9 = O 9 := xs_nk (by decide)
  have k11 : (xs O 4 s 0 m) 11 = O 11 := xs_nk (by decide)
  have k12 : (xs O 4 s 0 m) 12 = O 12 := xs_nk (by decide)
  have k13 : (xs O 4 s 0 m) 13 = O 13 := xs_nk (by decide)
  have k14 : (xs O 4 s 0 m) 14 = O 14 := xs_nk (by decide)
  have k15 : (xs O 4 s 0 m) 15 = O 15 := xs_nk (by decide)
  have k16 : (xs O 4 s 0 m) 16 = O 16 := xs_nk (by decide)
  have l0 : (xs O 4 s 0 m) 1 0 2 = O 1 0 2 := by rw [xs_nk (by decide)]
  have l1 : (xs O 4 s 0 m) 1 1 2 = O 1 1 2 := by rw [xs_nk (by decide)]
  have l2 : (xs O 4 s 0 m) 1 2 2 = O 1 2 2 := by rw [xs_nk (by decide)]
  have l3 : (xs O 4 s 0 m) 1 3 2 = O 1 3 2 := by rw [xs_nk (by decide)]
  have lk1 : (xs O 4 s 0 m) 1 = O 1 := xs_nk (by decide)
  have lk2 : (xs O 4 s 0 m) 2 = O 2 := xs_nk (by decide)
  have nCe : nC (xs O 4 s 0 m) = nC O := l0
  have nSe : nS (xs O 4 s 0 m) = nS O := l1
  have nFe : nF (xs O 4 s 0 m) = nF O := l2
  have nRe : nR (xs O 4 s 0 m) = nR O := l3
  have x44 : X' 44 = X 44 := hx 44 (by decide) (by decide) (by decide)
  have x45 : X' 45 = X 45 := hx 45 (by decide) (by decide) (by decide)
  have x46 : X' 46 = X 46 := hx 46 (by decide) (by decide) (by decide)
  have x47 : X' 47 = X 47 := hx 47 (by decide) (by decide) (by decide)
  have x48 : X' 48 = X 48 := hx 48 (by decide) (by decide) (by decide)
  have x49 : X' 49 = X 49 := hx 49 (by decide) (by decide) (by decide)
  have x52 : X' 52 = X 52 := hx 52 (by decide) (by decide) (by decide)
  have x53 : X' 53 = X 53 := hx 53 (by decide) (by decide) (by decide)
  have x54 : X' 54 = X 54 := hx 54 (by decide) (by decide) (by decide)
  have x55 : X' 55 = X 55 := hx 55 (by decide) (by decide) (by decide)
  have x56 : X' 56 = X 56 := hx 56 (by decide) (by decide) (by decide)
  have x58 : X' 58 = X 58 := hx 58 (by decide) (by decide) (by decide)
  have x59 : X' 59 = X 59 := hx 59 (by decide) (by decide) (by decide)
  have x60 : X' 60 = X 60 := hx 60 (by decide) (by decide) (by decide)
  have x61 : X' 61 = X 61 := hx 61 (by decide) (by decide) (by decide)
  have x62 : X' 62 = X 62 := hx 62 (by decide) (by decide) (by decide)
  have x64 : X' 64 = X 64 := hx 64 (by decide) (by decide) (by decide)
  have x65 : X' 65 = X 65 := hx 65 (by decide) (by decide) (by decide)
  have x66 : X' 66 = X 66 := hx 66 (by decide) (by decide) (by decide)
  have x67 : X' 67 = X 67 := hx 67 (by decide) (by decide) (by decide)
  have x68 : X' 68 = X 68 := hx 68 (by decide) (by decide) (by decide)
  have x40 : X' 40 = X 40 := hx 40 (by decide) (by decide) (by decide)
  refine ⟨?_, ?_, ?_, ?_, ?_, ?_, ?_, ?_, ?_, ?_, ?_, ?_, ?_, ?_, ?_, ?_, ?_, ?_, ?_, ?_, ?_, ?_, ?_, ?_, ?_, ?_, ?_, ?_, ?_, ?_, ?_, ?_, ?_, trivial⟩
  · -- day
    simp only [nC, nS, nF, nR, k0, k3, k5, k6, k7, k8, k9, k11, k12, k13, k14, k15, k16, l0, l1, l2, l3, lk1, lk2, x44, x45, x46, x47, x48, x49, x52, x53, x54, x55, x56, x58, x59, x60, x61, x62, x64, x65, x66, x67, x68, x40]; exact rm_day h
  · -- term
    simp only [nC, nS, nF, nR, k0, k3, k5, k6, k7, k8, k9, k11, k12, k13, k14, k15, k16, l0, l1, l2, l3, lk1, lk2, x44, x45, x46, x47, x48, x49, x52, x53, x54, x55, x56, x58, x59, x60, x61, x62, x64, x65, x66, x67, x68, x40]; exact rm_term h
  · -- nC
    simp only [nC, nS, nF, nR, k0, k3, k5, k6, k7, k8, k9, k11, k12, k13, k14, k15, k16, l0, l1, l2, l3, lk1, lk2, x44, x45, x46, x47, x48, x49, x52, x53, x54, x55, x56, x58, x59, x60, x61, x62, x64, x65, x66, x67, x68, x40]; exact rm_nC h
  · -- nS
    simp only [nC, nS, nF, nR, k0, k3, k5, k6, k7, k8, k9, k11, k12, k13, k14, k15, k16, l0, l1, l2, l3, lk1, lk2, x44, x45, x46, x47, x48, x49, x52, x53, x54, x55, x56, x58, x59, x60, x61, x62, x64, x65, x66, x67, x68, x40]; exact rm_nS h
  · -- nF
    simp only [nC, nS, nF, nR, k0, k3, k5, k6, k7, k8, k9, k11, k12, k13, k14, k15, k16, l0, l1, l2, l3, lk1, lk2, x44, x45, x46, x47, x48, x49, x52, x53, x54, x55, x56, x58, x59, x60, x61, x62, x64, x65, x66, x67, x68, x40]; exact rm_nF h
  · -- nR
    simp only [nC, nS, nF, nR, k0, k3, k5, k6, k7, k8, k9, k11, k12, k13, k14, k15, k16, l0, l1, l2, l3, lk1, lk2, x44, x45, x46, x47, x48, x49, x52, x53, x54, x55, x56, x58, x59, x60, x61, x62, x64, x65, x66, x67, x68, x40]; exact rm_nR h
  · -- crd
    simp only [nC, nS, nF, nR, k0, k3, k5, k6, k7, k8, k9, k11, k12, k13, k14, k15, k16, l0, l1, l2, l3, lk1, lk2, x44, x45, x46, x47, x48, x49, x52, x53, x54, x55, x56, x58, x59, x60, x61, x62, x64, x65, x66, x67, x68, x40]; exact rm_crd h
  · -- sea
    simp only [nC, nS, nF, nR, k0, k3, k5, k6, k7, k8, k9, k11, k12, k13, k14, k15, k16, l0, l1, l2, l3, lk1, lk2, x44, x45, x46, x47, x48, x49, x52, x53, x54, x55, x56, x58, x59, x60, x61, x62, x64, x65, x66, x67, x68, x40]; exact rm_sea h
  · -- res
    simp only [nC, nS, nF, nR, k0, k3, k5, k6, k7, k8, k9, k11, k12, k13, k14, k15, k16, l0, l1, l2, l3, lk1, lk2, x44, x45, x46, x47, x48, x49, x52, x53, x54, x55, x56, x58, x59, x60, x61, x62, x64, x65, x66, x67, x68, x40]; exact rm_res h
  · -- res0
    simp only [nC, nS, nF, nR, k0, k3, k5, k6, k7, k8, k9, k11, k12, k13, k14, k15, k16, l0, l1, l2, l3, lk1, lk2, x44, x45, x46, x47, x48, x49, x52, x53, x54, x55, x56, x58, x59, x60, x61, x62, x64, x65, x66, x67, x68, x40]; exact rm_res0 h
  · -- req
    simp only [nC, nS, nF, nR, k0, k3, k5, k6, k7, k8, k9, k11, k12, k13, k14, k15, k16, l0, l1, l2, l3, lk1, lk2, x44, x45, x46, x47, x48, x49, x52, x53, x54, x55, x56, x58, x59, x60, x61, x62, x64, x65, x66, x67, x68, x40]; exact rm_req h
  · -- wN
    simp only [nC, nS, nF, nR, k0, k3, k5, k6, k7, k8, k9, k11, k12, k13, k14, k15, k16, l0, l1, l2, l3, lk1, lk2, x44, x45, x46, x47, x48, x49, x52, x53, x54, x55, x56, x58, x59, x60, x61, x62, x64, x65, x66, x67, x68, x40]; exact rm_wN h
  · -- wN0
    simp only [nC, nS, nF, nR, k0, k3, k5, k6, k7, k8, k9, k11, k12, k13, k14, k15, k16, l0, l1, l2, l3, lk1, lk2, x44, x45, x46, x47, x48, x49, x52, x53, x54, x55, x56, x58, x59, x60, x61, x62, x64, x65, x66, x67, x68, x40]; exact rm_wN0 h
  · -- wA
    simp only [nC, nS, nF, nR, k0, k3, k5, k6, k7, k8, k9, k11, k12, k13, k14, k15, k16, l0, l1, l2, l3, lk1, lk2, x44, x45, x46, x47, x48, x49, x52, x53, x54, x55, x56, x58, x59, x60, x61, x62, x64, x65, x66, x67, x68, x40]; exact rm_wA h
  · -- maj
    intro s2 h2; rw [nSe] at h2; rw [h51, xs_all]; by_cases e : s2 = s; (subst e; rw [if_pos rfl, if_pos (by omega)]); (rw [if_neg e, if_neg (by omega)]; exact rm_maj h s2 h2)
  · -- tak
    simp only [nC, nS, nF, nR, k0, k3, k5, k6, k7, k8, k9, k11, k12, k13, k14, k15, k16, l0, l1, l2, l3, lk1, lk2, x44, x45, x46, x47, x48, x49, x52, x53, x54, x55, x56, x58, x59, x60, x61, x62, x64, x65, x66, x67, x68, x40]; exact rm_tak h
  · -- tak0
    simp only [nC, nS, nF, nR, k0, k3, k5, k6, k7, k8, k9, k11, k12, k13, k14, k15, k16, l0, l1, l2, l3, lk1, lk2, x44, x45, x46, x47, x48, x49, x52, x53, x54, x55, x56, x58, x59, x60, x61, x62, x64, x65, x66, x67, x68, x40]; exact rm_tak0 h
  · -- mov
    simp only [nC, nS, nF, nR, k0, k3, k5, k6, k7, k8, k9, k11, k12, k13, k14, k15, k16, l0, l1, l2, l3, lk1, lk2, x44, x45, x46, x47, x48, x49, x52, x53, x54, x55, x56, x58, x59, x60, x61, x62, x64, x65, x66, x67, x68, x40]; exact rm_mov h
  · -- mov0
    simp only [nC, nS, nF, nR, k0, k3, k5, k6, k7, k8, k9, k11, k12, k13, k14, k15, k16, l0, l1, l2, l3, lk1, lk2, x44, x45, x46, x47, x48, x49, x52, x53, x54, x55, x56, x58, x59, x60, x61, x62, x64, x65, x66, x67, x68, x40]; exact rm_mov0 h
  · -- tm
    simp only [nC, nS, nF, nR, k0, k3, k5, k6, k7, k8, k9, k11, k12, k13, k14, k15, k16, l0, l1, l2, l3, lk1, lk2, x44, x45, x46, x47, x48, x49, x52, x53, x54, x55, x56, x58, x59, x60, x61, x62, x64, x65, x66, x67, x68, x40]; exact rm_tm h
  · -- tm0
    simp only [nC, nS, nF, nR, k0, k3, k5, k6, k7, k8, k9, k11, k12, k13, k14, k15, k16, l0, l1, l2, l3, lk1, lk2, x44, x45, x46, x47, x48, x49, x52, x53, x54, x55, x56, x58, x59, x60, x61, x62, x64, x65, x66, x67, x68, x40]; exact rm_tm0 h
  · -- tri
    simp only [nC, nS, nF, nR, k0, k3, k5, k6, k7, k8, k9, k11, k12, k13, k14, k15, k16, l0, l1, l2, l3, lk1, lk2, x44, x45, x46, x47, x48, x49, x52, x53, x54, x55, x56, x58, x59, x60, x61, x62, x64, x65, x66, x67, x68, x40]; exact rm_tri h
  · -- tri0
    simp only [nC, nS, nF, nR, k0, k3, k5, k6, k7, k8, k9, k11, k12, k13, k14, k15, k16, l0, l1, l2, l3, lk1, lk2, x44, x45, x46, x47, x48, x49, x52, x53, x54, x55, x56, x58, x59, x60, x61, x62, x64, x65, x66, x67, x68, x40]; exact rm_tri0 h
  · -- trd
    simp only [nC, nS, nF, nR, k0, k3, k5, k6, k7, k8, k9, k11, k12, k13, k14, k15, k16, l0, l1, l2, l3, lk1, lk2, x44, x45, x46, x47, x48, x49, x52, x53, x54, x55, x56, x58, x59, x60, x61, x62, x64, x65, x66, x67, x68, x40]; exact rm_trd h
  · -- dep
    simp only [nC, nS, nF, nR, k0, k3, k5, k6, k7, k8, k9, k11, k12, k13, k14, k15, k16, l0, l1, l2, l3, lk1, lk2, x44, x45, x46, x47, x48, x49, x52, x53, x54, x55, x56, x58, x59, x60, x61, x62, x64, x65, x66, x67, x68, x40]; exact rm_dep h
  · -- f0
    simp only [nC, nS, nF, nR, k0, k3, k5, k6, k7, k8, k9, k11, k12, k13, k14, k15, k16, l0, l1, l2, l3, lk1, lk2, x44, x45, x46, x47, x48, x49, x52, x53, x54, x55, x56, x58, x59, x60, x61, x62, x64, x65, x66, x67, x68, x40]; exact rm_f0 h
  · -- f1
    simp only [nC, nS, nF, nR, k0, k3, k5, k6, k7, k8, k9, k11, k12, k13, k14, k15, k16, l0, l1, l2, l3, lk1, lk2, x44, x45, x46, x47, x48, x49, x52, x53, x54, x55, x56, x58, x59, x60, x61, x62, x64, x65, x66, x67, x68, x40]; exact rm_f1 h
  · -- f2
    simp only [nC, nS, nF, nR, k0, k3, k5, k6, k7, k8, k9, k11, k12, k13, k14, k15, k16, l0, l1, l2, l3, lk1, lk2, x44, x45, x46, x47, x48, x49, x52, x53, x54, x55, x56, x58, x59, x60, x61, x62, x64, x65, x66, x67, x68, x40]; exact rm_f2 h
  · -- f3
    simp only [nC, nS, nF, nR, k0, k3, k5, k6, k7, k8, k9, k11, k12, k13, k14, k15, k16, l0, l1, l2, l3, lk1, lk2, x44, x45, x46, x47, x48, x49, x52, x53, x54, x55, x56, x58, x59, x60, x61, x62, x64, x65, x66, x67, x68, x40]; exact rm_f3 h
  · -- f4
    simp only [nC, nS, nF, nR, k0, k3, k5, k6, k7, k8, k9, k11, k12, k13, k14, k15, k16, l0, l1, l2, l3, lk1, lk2, x44, x45, x46, x47, x48, x49, x52, x53, x54, x55, x56, x58, x59, x60, x61, x62, x64, x65, x66, x67, x68, x40]; exact rm_f4 h
  · -- rul
    simp only [nC, nS, nF, nR, k0, k3, k5, k6, k7, k8, k9, k11, k12, k13, k14, k15, k16, l0, l1, l2, l3, lk1, lk2, x44, x45, x46, x47, x48, x49, x52, x53, x54, x55, x56, x58, x59, x60, x61, x62, x64, x65, x66, x67, x68, x40]; exact rm_rul h
  · -- alw
    simp only [nC, nS, nF, nR, k0, k3, k5, k6, k7, k8, k9, k11, k12, k13, k14, k15, k16, l0, l1, l2, l3, lk1, lk2, x44, x45, x46, x47, x48, x49, x52, x53, x54, x55, x56, x58, x59, x60, x61, x62, x64, x65, x66, x67, x68, x40]; exact rm_alw h
  · -- deg
    simp only [nC, nS, nF, nR, k0, k3, k5, k6, k7, k8, k9, k11, k12, k13, k14, k15, k16, l0, l1, l2, l3, lk1, lk2, x44, x45, x46, x47, x48, x49, x52, x53, x54, x55, x56, x58, x59, x60, x61, x62, x64, x65, x66, x67, x68, x40]; exact rm_deg h
set_option maxHeartbeats 2000000 in
theorem rm_rs {O X X' : XM} (h : RM O X) {c m : Nat} (hc : (c : Int) < nC O) (hm : m < 4) {n : Int} (hx : ∀ k, 40 ≤ k → k ≤ 68 → k ≠ 46 → X' k = X k) (h46 : ∀ j, X' 46 0 j = if j = 4 * c + m then n else X 46 0 j) : RM (xs O 13 c m n) X' := by
  have k0 : (xs O 13 c m n) 0 = O 0 := xs_nk (by decide)
  have k3 : (xs O 13 c m n) 3 = O 3 := xs_nk (by decide)
  have k4 : (xs O 13 c m n) 4 = O 4 := xs_nk (by decide)
  have k5 : (xs O 13 c m n) 5 = O 5 := xs_nk (by decide)
  have k6 : (xs O 13 c m n) 6 = O 6 := xs_nk (by decide)
  have k7 : (xs O 13 c m n) 7 = O 7 := xs_nk (by decide)
  have k8 : (xs O 13 c m n) 8 = O 8 := xs_nk (by decide)
  have k9 : (xs O 13 c m n) 9 = O 9 := xs_nk (by decide)
  have k11 : (xs O 13 c m n) 11 = O 11 := xs_nk (by decide)
  have k12 : (xs O 13 c m n) 12 = O 12 := xs_nk (by decide)
  have k14 : (xs O 13 c m n) 14 = O 14 := xs_nk (by decide)
  have k15 : (xs O 13 c m n) 15 = O 15 := xs_nk (by decide)
  have k16 : (xs O 13 c m n) 16 = O 16 := xs_nk (by decide)
  have l0 : (xs O 13 c m n) 1 0 2 = O 1 0 2 := by rw [xs_nk (by decide)]
  have l1 : (xs O 13 c m n) 1 1 2 = O 1 1 2 := by rw [xs_nk (by decide)]
  have l2 : (xs O 13 c m n) 1 2 2 = O 1 2 2 := by rw [xs_nk (by decide)]
  have l3 : (xs O 13 c m n) 1 3 2 = O 1 3 2 := by rw [xs_nk (by decide)]
  have lk1 : (xs O 13 c m n) 1 = O 1 := xs_nk (by decide)
  have lk2 : (xs O 13 c m n) 2 = O 2 := xs_nk (by decide)
  have nCe : nC (xs O 13 c m n) = nC O := l0
  have nSe : nS (xs O 13 c m n) = nS O := l1
  have nFe : nF (xs O 13 c m n) = nF O := l2
  have nRe : nR (xs O 13 c m n) = nR O := l3
  have x44 : X' 44 = X 44 := hx 44 (by decide) (by decide) (by decide)
  have x45 : X' 45 = X 45 := hx 45 (by decide) (by decide) (by decide)
  have x47 : X' 47 = X 47 := hx 47 (by decide) (by decide) (by decide)
  have x48 : X' 48 = X 48 := hx 48 (by decide) (by decide) (by decide)
  have x49 : X' 49 = X 49 := hx 49 (by decide) (by decide) (by decide)
  have x51 : X' 51 = X 51 := hx 51 (by decide) (by decide) (by decide)
  have x52 : X' 52 = X 52 := hx 52 (by decide) (by decide) (by decide)
  have x53 : X' 53 = X 53 := hx 53 (by decide) (by decide) (by decide)
  have x54 : X' 54 = X 54 := hx 54 (by decide) (by decide) (by decide)
  have x55 : X' 55 = X 55 := hx 55 (by decide) (by decide) (by decide)
  have x56 : X' 56 = X 56 := hx 56 (by decide) (by decide) (by decide)
  have x58 : X' 58 = X 58 := hx 58 (by decide) (by decide) (by decide)
  have x59 : X' 59 = X 59 := hx 59 (by decide) (by decide) (by decide)
  have x60 : X' 60 = X 60 := hx 60 (by decide) (by decide) (by decide)
  have x61 : X' 61 = X 61 := hx 61 (by decide) (by decide) (by decide)
  have x62 : X' 62 = X 62 := hx 62 (by decide) (by decide) (by decide)
  have x64 : X' 64 = X 64 := hx 64 (by decide) (by decide) (by decide)
  have x65 : X' 65 = X 65 := hx 65 (by decide) (by decide) (by decide)
  have x66 : X' 66 = X 66 := hx 66 (by decide) (by decide) (by decide)
  have x67 : X' 67 = X 67 := hx 67 (by decide) (by decide) (by decide)
  have x68 : X' 68 = X 68 := hx 68 (by decide) (by decide) (by decide)
  have x40 : X' 40 = X 40 := hx 40 (by decide) (by decide) (by decide)
  refine ⟨?_, ?_, ?_, ?_, ?_, ?_, ?_, ?_, ?_, ?_, ?_, ?_, ?_, ?_, ?_, ?_, ?_, ?_, ?_, ?_, ?_, ?_, ?_, ?_, ?_, ?_, ?_, ?_, ?_, ?_, ?_, ?_, ?_, trivial⟩
  · -- day
    simp only [nC, nS, nF, nR, k0, k3, k4, k5, k6, k7, k8, k9, k11, k12, k14, k15, k16, l0, l1, l2, l3, lk1, lk2, x44, x45, x47, x48, x49, x51, x52, x53, x54, x55, x56, x58, x59, x60, x61, x62, x64, x65, x66, x67, x68, x40]; exact rm_day h
  · -- term
    simp only [nC, nS, nF, nR, k0, k3, k4, k5, k6, k7, k8, k9, k11, k12, k14, k15, k16, l0, l1, l2, l3, lk1, lk2, x44, x45, x47, x48, x49, x51, x52, x53, x54, x55, x56, x58, x59, x60, x61, x62, x64, x65, x66, x67, x68, x40]; exact rm_term h
  · -- nC
    simp only [nC, nS, nF, nR, k0, k3, k4, k5, k6, k7, k8, k9, k11, k12, k14, k15, k16, l0, l1, l2, l3, lk1, lk2, x44, x45, x47, x48, x49, x51, x52, x53, x54, x55, x56, x58, x59, x60, x61, x62, x64, x65, x66, x67, x68, x40]; exact rm_nC h
  · -- nS
    simp only [nC, nS, nF, nR, k0, k3, k4, k5, k6, k7, k8, k9, k11, k12, k14, k15, k16, l0, l1, l2, l3, lk1, lk2, x44, x45, x47, x48, x49, x51, x52, x53, x54, x55, x56, x58, x59, x60, x61, x62, x64, x65, x66, x67, x68, x40]; exact rm_nS h
  · -- nF
    simp only [nC, nS, nF, nR, k0, k3, k4, k5, k6, k7, k8, k9, k11, k12, k14, k15, k16, l0, l1, l2, l3, lk1, lk2, x44, x45, x47, x48, x49, x51, x52, x53, x54, x55, x56, x58, x59, x60, x61, x62, x64, x65, x66, x67, x68, x40]; exact rm_nF h
  · -- nR
    simp only [nC, nS, nF, nR, k0, k3, k4, k5, k6, k7, k8, k9, k11, k12, k14, k15, k16, l0, l1, l2, l3, lk1, lk2, x44, x45, x47, x48, x49, x51, x52, x53, x54, x55, x56, x58, x59, x60, x61, x62, x64, x65, x66, x67, x68, x40]; exact rm_nR h
  · -- crd
    simp only [nC, nS, nF, nR, k0, k3, k4, k5, k6, k7, k8, k9, k11, k12, k14, k15, k16, l0, l1, l2, l3, lk1, lk2, x44, x45, x47, x48, x49, x51, x52, x53, x54, x55, x56, x58, x59, x60, x61, x62, x64, x65, x66, x67, x68, x40]; exact rm_crd h
  · -- sea
    simp only [nC, nS, nF, nR, k0, k3, k4, k5, k6, k7, k8, k9, k11, k12, k14, k15, k16, l0, l1, l2, l3, lk1, lk2, x44, x45, x47, x48, x49, x51, x52, x53, x54, x55, x56, x58, x59, x60, x61, x62, x64, x65, x66, x67, x68, x40]; exact rm_sea h
  · -- res
    intro c2 m2 h2 h3; rw [nCe] at h2; rw [h46, xs_all]; by_cases e : c2 = c ∧ m2 = m; (rw [if_pos (by omega), if_pos (by omega)]); (rw [if_neg (by omega), if_neg (by omega)]; exact rm_res h c2 m2 h2 h3)
  · -- res0
    intro c2 m2 h2 h3 h4; rw [nCe] at h2; rw [h46, if_neg (by omega)]; exact rm_res0 h c2 m2 h2 h3 h4
  · -- req
    simp only [nC, nS, nF, nR, k0, k3, k4, k5, k6, k7, k8, k9, k11, k12, k14, k15, k16, l0, l1, l2, l3, lk1, lk2, x44, x45, x47, x48, x49, x51, x52, x53, x54, x55, x56, x58, x59, x60, x61, x62, x64, x65, x66, x67, x68, x40]; exact rm_req h
  · -- wN
    simp only [nC, nS, nF, nR, k0, k3, k4, k5, k6, k7, k8, k9, k11, k12, k14, k15, k16, l0, l1, l2, l3, lk1, lk2, x44, x45, x47, x48, x49, x51, x52, x53, x54, x55, x56, x58, x59, x60, x61, x62, x64, x65, x66, x67, x68, x40]; exact rm_wN h
  · -- wN0
    simp only [nC, nS, nF, nR, k0, k3, k4, k5, k6, k7, k8, k9, k11, k12, k14, k15, k16, l0, l1, l2, l3, lk1, lk2, x44, x45, x47, x48, x49, x51, x52, x53, x54, x55, x56, x58, x59, x60, x61, x62, x64, x65, x66, x67, x68, x40]; exact rm_wN0 h
  · -- wA
    simp only [nC, nS, nF, nR, k0, k3, k4, k5, k6, k7, k8, k9, k11, k12, k14, k15, k16, l0, l1, l2, l3, lk1, lk2, x44, x45, x47, x48, x49, x51, x52, x53, x54, x55, x56, x58, x59, x60, x61, x62, x64, x65, x66, x67, x68, x40]; exact rm_wA h
  · -- maj
    simp only [nC, nS, nF, nR, k0, k3, k4, k5, k6, k7, k8, k9, k11, k12, k14, k15, k16, l0, l1, l2, l3, lk1, lk2, x44, x45, x47, x48, x49, x51, x52, x53, x54, x55, x56, x58, x59, x60, x61, x62, x64, x65, x66, x67, x68, x40]; exact rm_maj h
  · -- tak
    simp only [nC, nS, nF, nR, k0, k3, k4, k5, k6, k7, k8, k9, k11, k12, k14, k15, k16, l0, l1, l2, l3, lk1, lk2, x44, x45, x47, x48, x49, x51, x52, x53, x54, x55, x56, x58, x59, x60, x61, x62, x64, x65, x66, x67, x68, x40]; exact rm_tak h
  · -- tak0
    simp only [nC, nS, nF, nR, k0, k3, k4, k5, k6, k7, k8, k9, k11, k12, k14, k15, k16, l0, l1, l2, l3, lk1, lk2, x44, x45, x47, x48, x49, x51, x52, x53, x54, x55, x56, x58, x59, x60, x61, x62, x64, x65, x66, x67, x68, x40]; exact rm_tak0 h
  · -- mov
    simp only [nC, nS, nF, nR, k0, k3, k4, k5, k6, k7, k8, k9, k11, k12, k14, k15, k16, l0, l1, l2, l3, lk1, lk2, x44, x45, x47, x48, x49, x51, x52, x53, x54, x55, x56, x58, x59, x60, x61, x62, x64, x65, x66, x67, x68, x40]; exact rm_mov h
  · -- mov0
    simp only [nC, nS, nF, nR, k0, k3, k4, k5, k6, k7, k8, k9, k11, k12, k14, k15, k16, l0, l1, l2, l3, lk1, lk2, x44, x45, x47, x48, x49, x51, x52, x53, x54, x55, x56, x58, x59, x60, x61, x62, x64, x65, x66, x67, x68, x40]; exact rm_mov0 h
  · -- tm
    simp only [nC, nS, nF, nR, k0, k3, k4, k5, k6, k7, k8, k9, k11, k12, k14, k15, k16, l0, l1, l2, l3, lk1, lk2, x44, x45, x47, x48, x49, x51, x52, x53, x54, x55, x56, x58, x59, x60, x61, x62, x64, x65, x66, x67, x68, x40]; exact rm_tm h
  · -- tm0
    simp only [nC, nS, nF, nR, k0, k3, k4, k5, k6, k7, k8, k9, k11, k12, k14, k15, k16, l0, l1, l2, l3, lk1, lk2, x44, x45, x47, x48, x49, x51, x52, x53, x54, x55, x56, x58, x59, x60, x61, x62, x64, x65, x66, x67, x68, x40]; exact rm_tm0 h
  · -- tri
    simp only [nC, nS, nF, nR, k0, k3, k4, k5, k6, k7, k8, k9, k11, k12, k14, k15, k16, l0, l1, l2, l3, lk1, lk2, x44, x45, x47, x48, x49, x51, x52, x53, x54, x55, x56, x58, x59, x60, x61, x62, x64, x65, x66, x67, x68, x40]; exact rm_tri h
  · -- tri0
    simp only [nC, nS, nF, nR, k0, k3, k4, k5, k6, k7, k8, k9, k11, k12, k14, k15, k16, l0, l1, l2, l3, lk1, lk2, x44, x45, x47, x48, x49, x51, x52, x53, x54, x55, x56, x58, x59, x60, x61, x62, x64, x65, x66, x67, x68, x40]; exact rm_tri0 h
  · -- trd
    simp only [nC, nS, nF, nR, k0, k3, k4, k5, k6, k7, k8, k9, k11, k12, k14, k15, k16, l0, l1, l2, l3, lk1, lk2, x44, x45, x47, x48, x49, x51, x52, x53, x54, x55, x56, x58, x59, x60, x61, x62, x64, x65, x66, x67, x68, x40]; exact rm_trd h
  · -- dep
    simp only [nC, nS, nF, nR, k0, k3, k4, k5, k6, k7, k8, k9, k11, k12, k14, k15, k16, l0, l1, l2, l3, lk1, lk2, x44, x45, x47, x48, x49, x51, x52, x53, x54, x55, x56, x58, x59, x60, x61, x62, x64, x65, x66, x67, x68, x40]; exact rm_dep h
  · -- f0
    simp only [nC, nS, nF, nR, k0, k3, k4, k5, k6, k7, k8, k9, k11, k12, k14, k15, k16, l0, l1, l2, l3, lk1, lk2, x44, x45, x47, x48, x49, x51, x52, x53, x54, x55, x56, x58, x59, x60, x61, x62, x64, x65, x66, x67, x68, x40]; exact rm_f0 h
  · -- f1
    simp only [nC, nS, nF, nR, k0, k3, k4, k5, k6, k7, k8, k9, k11, k12, k14, k15, k16, l0, l1, l2, l3, lk1, lk2, x44, x45, x47, x48, x49, x51, x52, x53, x54, x55, x56, x58, x59, x60, x61, x62, x64, x65, x66, x67, x68, x40]; exact rm_f1 h
  · -- f2
    simp only [nC, nS, nF, nR, k0, k3, k4, k5, k6, k7, k8, k9, k11, k12, k14, k15, k16, l0, l1, l2, l3, lk1, lk2, x44, x45, x47, x48, x49, x51, x52, x53, x54, x55, x56, x58, x59, x60, x61, x62, x64, x65, x66, x67, x68, x40]; exact rm_f2 h
  · -- f3
    simp only [nC, nS, nF, nR, k0, k3, k4, k5, k6, k7, k8, k9, k11, k12, k14, k15, k16, l0, l1, l2, l3, lk1, lk2, x44, x45, x47, x48, x49, x51, x52, x53, x54, x55, x56, x58, x59, x60, x61, x62, x64, x65, x66, x67, x68, x40]; exact rm_f3 h
  · -- f4
    simp only [nC, nS, nF, nR, k0, k3, k4, k5, k6, k7, k8, k9, k11, k12, k14, k15, k16, l0, l1, l2, l3, lk1, lk2, x44, x45, x47, x48, x49, x51, x52, x53, x54, x55, x56, x58, x59, x60, x61, x62, x64, x65, x66, x67, x68, x40]; exact rm_f4 h
  · -- rul
    simp only [nC, nS, nF, nR, k0, k3, k4, k5, k6, k7, k8, k9, k11, k12, k14, k15, k16, l0, l1, l2, l3, lk1, lk2, x44, x45, x47, x48, x49, x51, x52, x53, x54, x55, x56, x58, x59, x60, x61, x62, x64, x65, x66, x67, x68, x40]; exact rm_rul h
  · -- alw
    simp only [nC, nS, nF, nR, k0, k3, k4, k5, k6, k7, k8, k9, k11, k12, k14, k15, k16, l0, l1, l2, l3, lk1, lk2, x44, x45, x47, x48, x49, x51, x52, x53, x54, x55, x56, x58, x59, x60, x61, x62, x64, x65, x66, x67, x68, x40]; exact rm_alw h
  · -- deg
    simp only [nC, nS, nF, nR, k0, k3, k4, k5, k6, k7, k8, k9, k11, k12, k14, k15, k16, l0, l1, l2, l3, lk1, lk2, x44, x45, x47, x48, x49, x51, x52, x53, x54, x55, x56, x58, x59, x60, x61, x62, x64, x65, x66, x67, x68, x40]; exact rm_deg h
set_option maxHeartbeats 2000000 in
theorem rm_rq {O X X' : XM} (h : RM O X) {c : Nat} {f : Int} (hx : ∀ k, 40 ≤ k → k ≤ 68 → k ≠ 47 → X' k = X k) (h47 : ∀ j, X' 47 0 j = if j = c then f else X 47 0 j) : RM (xs O 12 c 5 f) X' := by
  have k0 : (xs O 12 c 5 f) 0 = O 0 := xs_nk (by decide)
  have k3 : (xs O 12 c 5 f) 3 = O 3 := xs_nk (by decide)
  have k4 : (xs O 12 c 5 f) 4 = O 4 := xs_nk (by decide)
  have k5 : (xs O 12 c 5 f) 5 = O 5 := xs_nk (by decide)
  have k6 : (xs O 12 c 5 f) 6 = O 6 := xs_nk (by decide)
  have k7 : (xs O 12 c 5 f) 7 = O 7 := xs_nk (by decide)
  have k8 : (xs O 12 c 5 f) 8 = O 8 := xs_nk (by decide)
  have k9 : (xs O 12 c 5 f) 9 = O 9 := xs_nk (by decide)
  have k11 : (xs O 12 c 5 f) 11 = O 11 := xs_nk (by decide)
  have k13 : (xs O 12 c 5 f) 13 = O 13 := xs_nk (by decide)
  have k14 : (xs O 12 c 5 f) 14 = O 14 := xs_nk (by decide)
  have k15 : (xs O 12 c 5 f) 15 = O 15 := xs_nk (by decide)
  have k16 : (xs O 12 c 5 f) 16 = O 16 := xs_nk (by decide)
  have l0 : (xs O 12 c 5 f) 1 0 2 = O 1 0 2 := by rw [xs_nk (by decide)]
  have l1 : (xs O 12 c 5 f) 1 1 2 = O 1 1 2 := by rw [xs_nk (by decide)]
  have l2 : (xs O 12 c 5 f) 1 2 2 = O 1 2 2 := by rw [xs_nk (by decide)]
  have l3 : (xs O 12 c 5 f) 1 3 2 = O 1 3 2 := by rw [xs_nk (by decide)]
  have lk1 : (xs O 12 c 5 f) 1 = O 1 := xs_nk (by decide)
  have lk2 : (xs O 12 c 5 f) 2 = O 2 := xs_nk (by decide)
  have nCe : nC (xs O 12 c 5 f) = nC O := l0
  have nSe : nS (xs O 12 c 5 f) = nS O := l1
  have nFe : nF (xs O 12 c 5 f) = nF O := l2
  have nRe : nR (xs O 12 c 5 f) = nR O := l3
  have x44 : X' 44 = X 44 := hx 44 (by decide) (by decide) (by decide)
  have x45 : X' 45 = X 45 := hx 45 (by decide) (by decide) (by decide)
  have x46 : X' 46 = X 46 := hx 46 (by decide) (by decide) (by decide)
  have x48 : X' 48 = X 48 := hx 48 (by decide) (by decide) (by decide)
  have x49 : X' 49 = X 49 := hx 49 (by decide) (by decide) (by decide)
  have x51 : X' 51 = X 51 := hx 51 (by decide) (by decide) (by decide)
  have x52 : X' 52 = X 52 := hx 52 (by decide) (by decide) (by decide)
  have x53 : X' 53 = X 53 := hx 53 (by decide) (by decide) (by decide)
  have x54 : X' 54 = X 54 := hx 54 (by decide) (by decide) (by decide)
  have x55 : X' 55 = X 55 := hx 55 (by decide) (by decide) (by decide)
  have x56 : X' 56 = X 56 := hx 56 (by decide) (by decide) (by decide)
  have x58 : X' 58 = X 58 := hx 58 (by decide) (by decide) (by decide)
  have x59 : X' 59 = X 59 := hx 59 (by decide) (by decide) (by decide)
  have x60 : X' 60 = X 60 := hx 60 (by decide) (by decide) (by decide)
  have x61 : X' 61 = X 61 := hx 61 (by decide) (by decide) (by decide)
  have x62 : X' 62 = X 62 := hx 62 (by decide) (by decide) (by decide)
  have x64 : X' 64 = X 64 := hx 64 (by decide) (by decide) (by decide)
  have x65 : X' 65 = X 65 := hx 65 (by decide) (by decide) (by decide)
  have x66 : X' 66 = X 66 := hx 66 (by decide) (by decide) (by decide)
  have x67 : X' 67 = X 67 := hx 67 (by decide) (by decide) (by decide)
  have x68 : X' 68 = X 68 := hx 68 (by decide) (by decide) (by decide)
  have x40 : X' 40 = X 40 := hx 40 (by decide) (by decide) (by decide)
  refine ⟨?_, ?_, ?_, ?_, ?_, ?_, ?_, ?_, ?_, ?_, ?_, ?_, ?_, ?_, ?_, ?_, ?_, ?_, ?_, ?_, ?_, ?_, ?_, ?_, ?_, ?_, ?_, ?_, ?_, ?_, ?_, ?_, ?_, trivial⟩
  · -- day
    simp only [nC, nS, nF, nR, k0, k3, k4, k5, k6, k7, k8, k9, k11, k13, k14, k15, k16, l0, l1, l2, l3, lk1, lk2, x44, x45, x46, x48, x49, x51, x52, x53, x54, x55, x56, x58, x59, x60, x61, x62, x64, x65, x66, x67, x68, x40]; exact rm_day h
  · -- term
    simp only [nC, nS, nF, nR, k0, k3, k4, k5, k6, k7, k8, k9, k11, k13, k14, k15, k16, l0, l1, l2, l3, lk1, lk2, x44, x45, x46, x48, x49, x51, x52, x53, x54, x55, x56, x58, x59, x60, x61, x62, x64, x65, x66, x67, x68, x40]; exact rm_term h
  · -- nC
    simp only [nC, nS, nF, nR, k0, k3, k4, k5, k6, k7, k8, k9, k11, k13, k14, k15, k16, l0, l1, l2, l3, lk1, lk2, x44, x45, x46, x48, x49, x51, x52, x53, x54, x55, x56, x58, x59, x60, x61, x62, x64, x65, x66, x67, x68, x40]; exact rm_nC h
  · -- nS
    simp only [nC, nS, nF, nR, k0, k3, k4, k5, k6, k7, k8, k9, k11, k13, k14, k15, k16, l0, l1, l2, l3, lk1, lk2, x44, x45, x46, x48, x49, x51, x52, x53, x54, x55, x56, x58, x59, x60, x61, x62, x64, x65, x66, x67, x68, x40]; exact rm_nS h
  · -- nF
    simp only [nC, nS, nF, nR, k0, k3, k4, k5, k6, k7, k8, k9, k11, k13, k14, k15, k16, l0, l1, l2, l3, lk1, lk2, x44, x45, x46, x48, x49, x51, x52, x53, x54, x55, x56, x58, x59, x60, x61, x62, x64, x65, x66, x67, x68, x40]; exact rm_nF h
  · -- nR
    simp only [nC, nS, nF, nR, k0, k3, k4, k5, k6, k7, k8, k9, k11, k13, k14, k15, k16, l0, l1, l2, l3, lk1, lk2, x44, x45, x46, x48, x49, x51, x52, x53, x54, x55, x56, x58, x59, x60, x61, x62, x64, x65, x66, x67, x68, x40]; exact rm_nR h
  · -- crd
    intro c2 h2; rw [nCe] at h2; rw [x44, xs_all, if_neg (by omega)]; exact rm_crd h c2 h2
  · -- sea
    intro c2 h2; rw [nCe] at h2; rw [x45, xs_all, if_neg (by omega)]; exact rm_sea h c2 h2
  · -- res
    simp only [nC, nS, nF, nR, k0, k3, k4, k5, k6, k7, k8, k9, k11, k13, k14, k15, k16, l0, l1, l2, l3, lk1, lk2, x44, x45, x46, x48, x49, x51, x52, x53, x54, x55, x56, x58, x59, x60, x61, x62, x64, x65, x66, x67, x68, x40]; exact rm_res h
  · -- res0
    simp only [nC, nS, nF, nR, k0, k3, k4, k5, k6, k7, k8, k9, k11, k13, k14, k15, k16, l0, l1, l2, l3, lk1, lk2, x44, x45, x46, x48, x49, x51, x52, x53, x54, x55, x56, x58, x59, x60, x61, x62, x64, x65, x66, x67, x68, x40]; exact rm_res0 h
  · -- req
    intro c2 h2; rw [nCe] at h2; rw [h47, xs_all]; by_cases e : c2 = c; (subst e; rw [if_pos rfl, if_pos (by omega)]); (rw [if_neg e, if_neg (by omega)]; exact rm_req h c2 h2)
  · -- wN
    simp only [nC, nS, nF, nR, k0, k3, k4, k5, k6, k7, k8, k9, k11, k13, k14, k15, k16, l0, l1, l2, l3, lk1, lk2, x44, x45, x46, x48, x49, x51, x52, x53, x54, x55, x56, x58, x59, x60, x61, x62, x64, x65, x66, x67, x68, x40]; exact rm_wN h
  · -- wN0
    simp only [nC, nS, nF, nR, k0, k3, k4, k5, k6, k7, k8, k9, k11, k13, k14, k15, k16, l0, l1, l2, l3, lk1, lk2, x44, x45, x46, x48, x49, x51, x52, x53, x54, x55, x56, x58, x59, x60, x61, x62, x64, x65, x66, x67, x68, x40]; exact rm_wN0 h
  · -- wA
    simp only [nC, nS, nF, nR, k0, k3, k4, k5, k6, k7, k8, k9, k11, k13, k14, k15, k16, l0, l1, l2, l3, lk1, lk2, x44, x45, x46, x48, x49, x51, x52, x53, x54, x55, x56, x58, x59, x60, x61, x62, x64, x65, x66, x67, x68, x40]; exact rm_wA h
  · -- maj
    simp only [nC, nS, nF, nR, k0, k3, k4, k5, k6, k7, k8, k9, k11, k13, k14, k15, k16, l0, l1, l2, l3, lk1, lk2, x44, x45, x46, x48, x49, x51, x52, x53, x54, x55, x56, x58, x59, x60, x61, x62, x64, x65, x66, x67, x68, x40]; exact rm_maj h
  · -- tak
    simp only [nC, nS, nF, nR, k0, k3, k4, k5, k6, k7, k8, k9, k11, k13, k14, k15, k16, l0, l1, l2, l3, lk1, lk2, x44, x45, x46, x48, x49, x51, x52, x53, x54, x55, x56, x58, x59, x60, x61, x62, x64, x65, x66, x67, x68, x40]; exact rm_tak h
  · -- tak0
    simp only [nC, nS, nF, nR, k0, k3, k4, k5, k6, k7, k8, k9, k11, k13, k14, k15, k16, l0, l1, l2, l3, lk1, lk2, x44, x45, x46, x48, x49, x51, x52, x53, x54, x55, x56, x58, x59, x60, x61, x62, x64, x65, x66, x67, x68, x40]; exact rm_tak0 h
  · -- mov
    simp only [nC, nS, nF, nR, k0, k3, k4, k5, k6, k7, k8, k9, k11, k13, k14, k15, k16, l0, l1, l2, l3, lk1, lk2, x44, x45, x46, x48, x49, x51, x52, x53, x54, x55, x56, x58, x59, x60, x61, x62, x64, x65, x66, x67, x68, x40]; exact rm_mov h
  · -- mov0
    simp only [nC, nS, nF, nR, k0, k3, k4, k5, k6, k7, k8, k9, k11, k13, k14, k15, k16, l0, l1, l2, l3, lk1, lk2, x44, x45, x46, x48, x49, x51, x52, x53, x54, x55, x56, x58, x59, x60, x61, x62, x64, x65, x66, x67, x68, x40]; exact rm_mov0 h
  · -- tm
    simp only [nC, nS, nF, nR, k0, k3, k4, k5, k6, k7, k8, k9, k11, k13, k14, k15, k16, l0, l1, l2, l3, lk1, lk2, x44, x45, x46, x48, x49, x51, x52, x53, x54, x55, x56, x58, x59, x60, x61, x62, x64, x65, x66, x67, x68, x40]; exact rm_tm h
  · -- tm0
    simp only [nC, nS, nF, nR, k0, k3, k4, k5, k6, k7, k8, k9, k11, k13, k14, k15, k16, l0, l1, l2, l3, lk1, lk2, x44, x45, x46, x48, x49, x51, x52, x53, x54, x55, x56, x58, x59, x60, x61, x62, x64, x65, x66, x67, x68, x40]; exact rm_tm0 h
  · -- tri
    simp only [nC, nS, nF, nR, k0, k3, k4, k5, k6, k7, k8, k9, k11, k13, k14, k15, k16, l0, l1, l2, l3, lk1, lk2, x44, x45, x46, x48, x49, x51, x52, x53, x54, x55, x56, x58, x59, x60, x61, x62, x64, x65, x66, x67, x68, x40]; exact rm_tri h
  · -- tri0
    simp only [nC, nS, nF, nR, k0, k3, k4, k5, k6, k7, k8, k9, k11, k13, k14, k15, k16, l0, l1, l2, l3, lk1, lk2, x44, x45, x46, x48, x49, x51, x52, x53, x54, x55, x56, x58, x59, x60, x61, x62, x64, x65, x66, x67, x68, x40]; exact rm_tri0 h
  · -- trd
    simp only [nC, nS, nF, nR, k0, k3, k4, k5, k6, k7, k8, k9, k11, k13, k14, k15, k16, l0, l1, l2, l3, lk1, lk2, x44, x45, x46, x48, x49, x51, x52, x53, x54, x55, x56, x58, x59, x60, x61, x62, x64, x65, x66, x67, x68, x40]; exact rm_trd h
  · -- dep
    simp only [nC, nS, nF, nR, k0, k3, k4, k5, k6, k7, k8, k9, k11, k13, k14, k15, k16, l0, l1, l2, l3, lk1, lk2, x44, x45, x46, x48, x49, x51, x52, x53, x54, x55, x56, x58, x59, x60, x61, x62, x64, x65, x66, x67, x68, x40]; exact rm_dep h
  · -- f0
    simp only [nC, nS, nF, nR, k0, k3, k4, k5, k6, k7, k8, k9, k11, k13, k14, k15, k16, l0, l1, l2, l3, lk1, lk2, x44, x45, x46, x48, x49, x51, x52, x53, x54, x55, x56, x58, x59, x60, x61, x62, x64, x65, x66, x67, x68, x40]; exact rm_f0 h
  · -- f1
    simp only [nC, nS, nF, nR, k0, k3, k4, k5, k6, k7, k8, k9, k11, k13, k14, k15, k16, l0, l1, l2, l3, lk1, lk2, x44, x45, x46, x48, x49, x51, x52, x53, x54, x55, x56, x58, x59, x60, x61, x62, x64, x65, x66, x67, x68, x40]; exact rm_f1 h
  · -- f2
    simp only [nC, nS, nF, nR, k0, k3, k4, k5, k6, k7, k8, k9, k11, k13, k14, k15, k16, l0, l1, l2, l3, lk1, lk2, x44, x45, x46, x48, x49, x51, x52, x53, x54, x55, x56, x58, x59, x60, x61, x62, x64, x65, x66, x67, x68, x40]; exact rm_f2 h
  · -- f3
    simp only [nC, nS, nF, nR, k0, k3, k4, k5, k6, k7, k8, k9, k11, k13, k14, k15, k16, l0, l1, l2, l3, lk1, lk2, x44, x45, x46, x48, x49, x51, x52, x53, x54, x55, x56, x58, x59, x60, x61, x62, x64, x65, x66, x67, x68, x40]; exact rm_f3 h
  · -- f4
    simp only [nC, nS, nF, nR, k0, k3, k4, k5, k6, k7, k8, k9, k11, k13, k14, k15, k16, l0, l1, l2, l3, lk1, lk2, x44, x45, x46, x48, x49, x51, x52, x53, x54, x55, x56, x58, x59, x60, x61, x62, x64, x65, x66, x67, x68, x40]; exact rm_f4 h
  · -- rul
    simp only [nC, nS, nF, nR, k0, k3, k4, k5, k6, k7, k8, k9, k11, k13, k14, k15, k16, l0, l1, l2, l3, lk1, lk2, x44, x45, x46, x48, x49, x51, x52, x53, x54, x55, x56, x58, x59, x60, x61, x62, x64, x65, x66, x67, x68, x40]; exact rm_rul h
  · -- alw
    simp only [nC, nS, nF, nR, k0, k3, k4, k5, k6, k7, k8, k9, k11, k13, k14, k15, k16, l0, l1, l2, l3, lk1, lk2, x44, x45, x46, x48, x49, x51, x52, x53, x54, x55, x56, x58, x59, x60, x61, x62, x64, x65, x66, x67, x68, x40]; exact rm_alw h
  · -- deg
    simp only [nC, nS, nF, nR, k0, k3, k4, k5, k6, k7, k8, k9, k11, k13, k14, k15, k16, l0, l1, l2, l3, lk1, lk2, x44, x45, x46, x48, x49, x51, x52, x53, x54, x55, x56, x58, x59, x60, x61, x62, x64, x65, x66, x67, x68, x40]; exact rm_deg h
set_option maxHeartbeats 2000000 in
theorem rm_mk {O X X' : XM} (h : RM O X) {s c : Nat} (hs : (s : Int) < nS O) (hc : c < 20) {m : Int} (hx : ∀ k, 40 ≤ k → k ≤ 68 → k ≠ 54 → X' k = X k) (h54 : ∀ j, X' 54 0 j = if j = 20 * s + c then m else X 54 0 j) : RM (xs O 7 s c m) X' := by
  have k0 : (xs O 7 s c m) 0 = O 0 := xs_nk (by decide)
  have k3 : (xs O 7 s c m) 3 = O 3 := xs_nk (by decide)
  have k4 : (xs O 7 s c m) 4 = O 4 := xs_nk (by decide)
  have k5 : (xs O 7 s c m) 5 = O 5 := xs_nk (by decide)
  have k6 : (xs O 7 s c m) 6 = O 6 := xs_nk (by decide)
  have k8 : (xs O 7 s c m) 8 = O 8 := xs_nk (by decide)
  have k9 : (xs O 7 s c m) 9 = O 9 := xs_nk (by decide)
  have k11 : (xs O 7 s c m) 11 = O 11 := xs_nk (by decide)
  have k12 : (xs O 7 s c m) 12 = O 12 := xs_nk (by decide)
  have k13 : (xs O 7 s c m) 13 = O 13 := xs_nk (by decide)
  have k14 : (xs O 7 s c m) 14 = O 14 := xs_nk (by decide)
  have k15 : (xs O 7 s c m) 15 = O 15 := xs_nk (by decide)
  have k16 : (xs O 7 s c m) 16 = O 16 := xs_nk (by decide)
  have l0 : (xs O 7 s c m) 1 0 2 = O 1 0 2 := by rw [xs_nk (by decide)]
  have l1 : (xs O 7 s c m) 1 1 2 = O 1 1 2 := by rw [xs_nk (by decide)]
  have l2 : (xs O 7 s c m) 1 2 2 = O 1 2 2 := by rw [xs_nk (by decide)]
  have l3 : (xs O 7 s c m) 1 3 2 = O 1 3 2 := by rw [xs_nk (by decide)]
  have lk1 : (xs O 7 s c m) 1 = O 1 := xs_nk (by decide)
  have lk2 : (xs O 7 s c m) 2 = O 2 := xs_nk (by decide)
  have nCe : nC (xs O 7 s c m) = nC O := l0
  have nSe : nS (xs O 7 s c m) = nS O := l1
  have nFe : nF (xs O 7 s c m) = nF O := l2
  have nRe : nR (xs O 7 s c m) = nR O := l3
  have x44 : X' 44 = X 44 := hx 44 (by decide) (by decide) (by decide)
  have x45 : X' 45 = X 45 := hx 45 (by decide) (by decide) (by decide)
  have x46 : X' 46 = X 46 := hx 46 (by decide) (by decide) (by decide)
  have x47 : X' 47 = X 47 := hx 47 (by decide) (by decide) (by decide)
  have x48 : X' 48 = X 48 := hx 48 (by decide) (by decide) (by decide)
  have x49 : X' 49 = X 49 := hx 49 (by decide) (by decide) (by decide)
  have x51 : X' 51 = X 51 := hx 51 (by decide) (by decide) (by decide)
  have x52 : X' 52 = X 52 := hx 52 (by decide) (by decide) (by decide)
  have x53 : X' 53 = X 53 := hx 53 (by decide) (by decide) (by decide)
  have x55 : X' 55 = X 55 := hx 55 (by decide) (by decide) (by decide)
  have x56 : X' 56 = X 56 := hx 56 (by decide) (by decide) (by decide)
  have x58 : X' 58 = X 58 := hx 58 (by decide) (by decide) (by decide)
  have x59 : X' 59 = X 59 := hx 59 (by decide) (by decide) (by decide)
  have x60 : X' 60 = X 60 := hx 60 (by decide) (by decide) (by decide)
  have x61 : X' 61 = X 61 := hx 61 (by decide) (by decide) (by decide)
  have x62 : X' 62 = X 62 := hx 62 (by decide) (by decide) (by decide)
  have x64 : X' 64 = X 64 := hx 64 (by decide) (by decide) (by decide)
  have x65 : X' 65 = X 65 := hx 65 (by decide) (by decide) (by decide)
  have x66 : X' 66 = X 66 := hx 66 (by decide) (by decide) (by decide)
  have x67 : X' 67 = X 67 := hx 67 (by decide) (by decide) (by decide)
  have x68 : X' 68 = X 68 := hx 68 (by decide) (by decide) (by decide)
  have x40 : X' 40 = X 40 := hx 40 (by decide) (by decide) (by decide)
  refine ⟨?_, ?_, ?_, ?_, ?_, ?_, ?_, ?_, ?_, ?_, ?_, ?_, ?_, ?_, ?_, ?_, ?_, ?_, ?_, ?_, ?_, ?_, ?_, ?_, ?_, ?_, ?_, ?_, ?_, ?_, ?_, ?_, ?_, trivial⟩
  · -- day
    simp only [nC, nS, nF, nR, k0, k3, k4, k5, k6, k8, k9, k11, k12, k13, k14, k15, k16, l0, l1, l2, l3, lk1, lk2, x44, x45, x46, x47, x48, x49, x51, x52, x53, x55, x56, x58, x59, x60, x61, x62, x64, x65, x66, x67, x68, x40]; exact rm_day h
  · -- term
    simp only [nC, nS, nF, nR, k0, k3, k4, k5, k6, k8, k9, k11, k12, k13, k14, k15, k16, l0, l1, l2, l3, lk1, lk2, x44, x45, x46, x47, x48, x49, x51, x52, x53, x55, x56, x58, x59, x60, x61, x62, x64, x65, x66, x67, x68, x40]; exact rm_term h
  · -- nC
    simp only [nC, nS, nF, nR, k0, k3, k4, k5, k6, k8, k9, k11, k12, k13, k14, k15, k16, l0, l1, l2, l3, lk1, lk2, x44, x45, x46, x47, x48, x49, x51, x52, x53, x55, x56, x58, x59, x60, x61, x62, x64, x65, x66, x67, x68, x40]; exact rm_nC h
  · -- nS
    simp only [nC, nS, nF, nR, k0, k3, k4, k5, k6, k8, k9, k11, k12, k13, k14, k15, k16, l0, l1, l2, l3, lk1, lk2, x44, x45, x46, x47, x48, x49, x51, x52, x53, x55, x56, x58, x59, x60, x61, x62, x64, x65, x66, x67, x68, x40]; exact rm_nS h
  · -- nF
    simp only [nC, nS, nF, nR, k0, k3, k4, k5, k6, k8, k9, k11, k12, k13, k14, k15, k16, l0, l1, l2, l3, lk1, lk2, x44, x45, x46, x47, x48, x49, x51, x52, x53, x55, x56, x58, x59, x60, x61, x62, x64, x65, x66, x67, x68, x40]; exact rm_nF h
  · -- nR
    simp only [nC, nS, nF, nR, k0, k3, k4, k5, k6, k8, k9, k11, k12, k13, k14, k15, k16, l0, l1, l2, l3, lk1, lk2, x44, x45, x46, x47, x48, x49, x51, x52, x53, x55, x56, x58, x59, x60, x61, x62, x64, x65, x66, x67, x68, x40]; exact rm_nR h
  · -- crd
    simp only [nC, nS, nF, nR, k0, k3, k4, k5, k6, k8, k9, k11, k12, k13, k14, k15, k16, l0, l1, l2, l3, lk1, lk2, x44, x45, x46, x47, x48, x49, x51, x52, x53, x55, x56, x58, x59, x60, x61, x62, x64, x65, x66, x67, x68, x40]; exact rm_crd h
  · -- sea
    simp only [nC, nS, nF, nR, k0, k3, k4, k5, k6, k8, k9, k11, k12, k13, k14, k15, k16, l0, l1, l2, l3, lk1, lk2, x44, x45, x46, x47, x48, x49, x51, x52, x53, x55, x56, x58, x59, x60, x61, x62, x64, x65, x66, x67, x68, x40]; exact rm_sea h
  · -- res
    simp only [nC, nS, nF, nR, k0, k3, k4, k5, k6, k8, k9, k11, k12, k13, k14, k15, k16, l0, l1, l2, l3, lk1, lk2, x44, x45, x46, x47, x48, x49, x51, x52, x53, x55, x56, x58, x59, x60, x61, x62, x64, x65, x66, x67, x68, x40]; exact rm_res h
  · -- res0
    simp only [nC, nS, nF, nR, k0, k3, k4, k5, k6, k8, k9, k11, k12, k13, k14, k15, k16, l0, l1, l2, l3, lk1, lk2, x44, x45, x46, x47, x48, x49, x51, x52, x53, x55, x56, x58, x59, x60, x61, x62, x64, x65, x66, x67, x68, x40]; exact rm_res0 h
  · -- req
    simp only [nC, nS, nF, nR, k0, k3, k4, k5, k6, k8, k9, k11, k12, k13, k14, k15, k16, l0, l1, l2, l3, lk1, lk2, x44, x45, x46, x47, x48, x49, x51, x52, x53, x55, x56, x58, x59, x60, x61, x62, x64, x65, x66, x67, x68, x40]; exact rm_req h
  · -- wN
    simp only [nC, nS, nF, nR, k0, k3, k4, k5, k6, k8, k9, k11, k12, k13, k14, k15, k16, l0, l1, l2, l3, lk1, lk2, x44, x45, x46, x47, x48, x49, x51, x52, x53, x55, x56, x58, x59, x60, x61, x62, x64, x65, x66, x67, x68, x40]; exact rm_wN h
  · -- wN0
    simp only [nC, nS, nF, nR, k0, k3, k4, k5, k6, k8, k9, k11, k12, k13, k14, k15, k16, l0, l1, l2, l3, lk1, lk2, x44, x45, x46, x47, x48, x49, x51, x52, x53, x55, x56, x58, x59, x60, x61, x62, x64, x65, x66, x67, x68, x40]; exact rm_wN0 h
  · -- wA
    simp only [nC, nS, nF, nR, k0, k3, k4, k5, k6, k8, k9, k11, k12, k13, k14, k15, k16, l0, l1, l2, l3, lk1, lk2, x44, x45, x46, x47, x48, x49, x51, x52, x53, x55, x56, x58, x59, x60, x61, x62, x64, x65, x66, x67, x68, x40]; exact rm_wA h
  · -- maj
    simp only [nC, nS, nF, nR, k0, k3, k4, k5, k6, k8, k9, k11, k12, k13, k14, k15, k16, l0, l1, l2, l3, lk1, lk2, x44, x45, x46, x47, x48, x49, x51, x52, x53, x55, x56, x58, x59, x60, x61, x62, x64, x65, x66, x67, x68, x40]; exact rm_maj h
  · -- tak
    simp only [nC, nS, nF, nR, k0, k3, k4, k5, k6, k8, k9, k11, k12, k13, k14, k15, k16, l0, l1, l2, l3, lk1, lk2, x44, x45, x46, x47, x48, x49, x51, x52, x53, x55, x56, x58, x59, x60, x61, x62, x64, x65, x66, x67, x68, x40]; exact rm_tak h
  · -- tak0
    simp only [nC, nS, nF, nR, k0, k3, k4, k5, k6, k8, k9, k11, k12, k13, k14, k15, k16, l0, l1, l2, l3, lk1, lk2, x44, x45, x46, x47, x48, x49, x51, x52, x53, x55, x56, x58, x59, x60, x61, x62, x64, x65, x66, x67, x68, x40]; exact rm_tak0 h
  · -- mov
    simp only [nC, nS, nF, nR, k0, k3, k4, k5, k6, k8, k9, k11, k12, k13, k14, k15, k16, l0, l1, l2, l3, lk1, lk2, x44, x45, x46, x47, x48, x49, x51, x52, x53, x55, x56, x58, x59, x60, x61, x62, x64, x65, x66, x67, x68, x40]; exact rm_mov h
  · -- mov0
    simp only [nC, nS, nF, nR, k0, k3, k4, k5, k6, k8, k9, k11, k12, k13, k14, k15, k16, l0, l1, l2, l3, lk1, lk2, x44, x45, x46, x47, x48, x49, x51, x52, x53, x55, x56, x58, x59, x60, x61, x62, x64, x65, x66, x67, x68, x40]; exact rm_mov0 h
  · -- tm
    intro s2 c2 h2 h3; rw [nSe] at h2; rw [h54, xs_all]; by_cases e : s2 = s ∧ c2 = c; (rw [if_pos (by omega), if_pos (by omega)]); (rw [if_neg (by omega), if_neg (by omega)]; exact rm_tm h s2 c2 h2 h3)
  · -- tm0
    intro s2 c2 h2 h3 h4; rw [nSe] at h2; rw [h54, if_neg (by omega)]; exact rm_tm0 h s2 c2 h2 h3 h4
  · -- tri
    simp only [nC, nS, nF, nR, k0, k3, k4, k5, k6, k8, k9, k11, k12, k13, k14, k15, k16, l0, l1, l2, l3, lk1, lk2, x44, x45, x46, x47, x48, x49, x51, x52, x53, x55, x56, x58, x59, x60, x61, x62, x64, x65, x66, x67, x68, x40]; exact rm_tri h
  · -- tri0
    simp only [nC, nS, nF, nR, k0, k3, k4, k5, k6, k8, k9, k11, k12, k13, k14, k15, k16, l0, l1, l2, l3, lk1, lk2, x44, x45, x46, x47, x48, x49, x51, x52, x53, x55, x56, x58, x59, x60, x61, x62, x64, x65, x66, x67, x68, x40]; exact rm_tri0 h
  · -- trd
    simp only [nC, nS, nF, nR, k0, k3, k4, k5, k6, k8, k9, k11, k12, k13, k14, k15, k16, l0, l1, l2, l3, lk1, lk2, x44, x45, x46, x47, x48, x49, x51, x52, x53, x55, x56, x58, x59, x60, x61, x62, x64, x65, x66, x67, x68, x40]; exact rm_trd h
  · -- dep
    simp only [nC, nS, nF, nR, k0, k3, k4, k5, k6, k8, k9, k11, k12, k13, k14, k15, k16, l0, l1, l2, l3, lk1, lk2, x44, x45, x46, x47, x48, x49, x51, x52, x53, x55, x56, x58, x59, x60, x61, x62, x64, x65, x66, x67, x68, x40]; exact rm_dep h
  · -- f0
    simp only [nC, nS, nF, nR, k0, k3, k4, k5, k6, k8, k9, k11, k12, k13, k14, k15, k16, l0, l1, l2, l3, lk1, lk2, x44, x45, x46, x47, x48, x49, x51, x52, x53, x55, x56, x58, x59, x60, x61, x62, x64, x65, x66, x67, x68, x40]; exact rm_f0 h
  · -- f1
    simp only [nC, nS, nF, nR, k0, k3, k4, k5, k6, k8, k9, k11, k12, k13, k14, k15, k16, l0, l1, l2, l3, lk1, lk2, x44, x45, x46, x47, x48, x49, x51, x52, x53, x55, x56, x58, x59, x60, x61, x62, x64, x65, x66, x67, x68, x40]; exact rm_f1 h
  · -- f2
    simp only [nC, nS, nF, nR, k0, k3, k4, k5, k6, k8, k9, k11, k12, k13, k14, k15, k16, l0, l1, l2, l3, lk1, lk2, x44, x45, x46, x47, x48, x49, x51, x52, x53, x55, x56, x58, x59, x60, x61, x62, x64, x65, x66, x67, x68, x40]; exact rm_f2 h
  · -- f3
    simp only [nC, nS, nF, nR, k0, k3, k4, k5, k6, k8, k9, k11, k12, k13, k14, k15, k16, l0, l1, l2, l3, lk1, lk2, x44, x45, x46, x47, x48, x49, x51, x52, x53, x55, x56, x58, x59, x60, x61, x62, x64, x65, x66, x67, x68, x40]; exact rm_f3 h
  · -- f4
    simp only [nC, nS, nF, nR, k0, k3, k4, k5, k6, k8, k9, k11, k12, k13, k14, k15, k16, l0, l1, l2, l3, lk1, lk2, x44, x45, x46, x47, x48, x49, x51, x52, x53, x55, x56, x58, x59, x60, x61, x62, x64, x65, x66, x67, x68, x40]; exact rm_f4 h
  · -- rul
    simp only [nC, nS, nF, nR, k0, k3, k4, k5, k6, k8, k9, k11, k12, k13, k14, k15, k16, l0, l1, l2, l3, lk1, lk2, x44, x45, x46, x47, x48, x49, x51, x52, x53, x55, x56, x58, x59, x60, x61, x62, x64, x65, x66, x67, x68, x40]; exact rm_rul h
  · -- alw
    simp only [nC, nS, nF, nR, k0, k3, k4, k5, k6, k8, k9, k11, k12, k13, k14, k15, k16, l0, l1, l2, l3, lk1, lk2, x44, x45, x46, x47, x48, x49, x51, x52, x53, x55, x56, x58, x59, x60, x61, x62, x64, x65, x66, x67, x68, x40]; exact rm_alw h
  · -- deg
    simp only [nC, nS, nF, nR, k0, k3, k4, k5, k6, k8, k9, k11, k12, k13, k14, k15, k16, l0, l1, l2, l3, lk1, lk2, x44, x45, x46, x47, x48, x49, x51, x52, x53, x55, x56, x58, x59, x60, x61, x62, x64, x65, x66, x67, x68, x40]; exact rm_deg h
set_option maxHeartbeats 2000000 in
theorem rm_dg {O X X' : XM} (h : RM O X) {m : Nat} {n : Int} (hx : ∀ k, 40 ≤ k → k ≤ 68 → k ≠ 68 → X' k = X k) (h68 : ∀ j, X' 68 0 j = if j = m then n else X 68 0 j) : RM (xs O 3 0 m n) X' := by
  have k0 : (xs O 3 0 m n) 0 = O 0 := xs_nk (by decide)
  have k4 : (xs O 3 0 m n) 4 = O 4 := xs_nk (by decide)
  have k5 : (xs O 3 0 m n) 5 = O 5 := xs_nk (by decide)
  have k6 : (xs O 3 0 m n) 6 = O 6 := xs_nk (by decide)
  have k7 : (xs O 3 0 m n) 7 = O 7 := xs_nk (by decide)
  have k8 : (xs O 3 0 m n) 8 = O 8 := xs_nk (by decide)
  have k9 : (xs O 3 0 m n) 9 = O 9 := xs_nk (by decide)
  have k11 : (xs O 3 0 m n) 11 = O 11 := xs_nk (by decide)
  have k12 : (xs O 3 0 m n) 12 = O 12 := xs_nk (by decide)
  have k13 : (xs O 3 0 m n) 13 = O 13 := xs_nk (by decide)
  have k14 : (xs O 3 0 m n) 14 = O 14 := xs_nk (by decide)
  have k15 : (xs O 3 0 m n) 15 = O 15 := xs_nk (by decide)
  have k16 : (xs O 3 0 m n) 16 = O 16 := xs_nk (by decide)
  have l0 : (xs O 3 0 m n) 1 0 2 = O 1 0 2 := by rw [xs_nk (by decide)]
  have l1 : (xs O 3 0 m n) 1 1 2 = O 1 1 2 := by rw [xs_nk (by decide)]
  have l2 : (xs O 3 0 m n) 1 2 2 = O 1 2 2 := by rw [xs_nk (by decide)]
  have l3 : (xs O 3 0 m n) 1 3 2 = O 1 3 2 := by rw [xs_nk (by decide)]
  have lk1 : (xs O 3 0 m n) 1 = O 1 := xs_nk (by decide)
  have lk2 : (xs O 3 0 m n) 2 = O 2 := xs_nk (by decide)
  have nCe : nC (xs O 3 0 m n) = nC O := l0
  have nSe : nS (xs O 3 0 m n) = nS O := l1
  have nFe : nF (xs O 3 0 m n) = nF O := l2
  have nRe : nR (xs O 3 0 m n) = nR O := l3
  have x44 : X' 44 = X 44 := hx 44 (by decide) (by decide) (by decide)
  have x45 : X' 45 = X 45 := hx 45 (by decide) (by decide) (by decide)
  have x46 : X' 46 = X 46 := hx 46 (by decide) (by decide) (by decide)
  have x47 : X' 47 = X 47 := hx 47 (by decide) (by decide) (by decide)
  have x48 : X' 48 = X 48 := hx 48 (by decide) (by decide) (by decide)
  have x49 : X' 49 = X 49 := hx 49 (by decide) (by decide) (by decide)
  have x51 : X' 51 = X 51 := hx 51 (by decide) (by decide) (by decide)
  have x52 : X' 52 = X 52 := hx 52 (by decide) (by decide) (by decide)
  have x53 : X' 53 = X 53 := hx 53 (by decide) (by decide) (by decide)
  have x54 : X' 54 = X 54 := hx 54 (by decide) (by decide) (by decide)
  have x55 : X' 55 = X 55 := hx 55 (by decide) (by decide) (by decide)
  have x56 : X' 56 = X 56 := hx 56 (by decide) (by decide) (by decide)
  have x58 : X' 58 = X 58 := hx 58 (by decide) (by decide) (by decide)
  have x59 : X' 59 = X 59 := hx 59 (by decide) (by decide) (by decide)
  have x60 : X' 60 = X 60 := hx 60 (by decide) (by decide) (by decide)
  have x61 : X' 61 = X 61 := hx 61 (by decide) (by decide) (by decide)
  have x62 : X' 62 = X 62 := hx 62 (by decide) (by decide) (by decide)
  have x64 : X' 64 = X 64 := hx 64 (by decide) (by decide) (by decide)
  have x65 : X' 65 = X 65 := hx 65 (by decide) (by decide) (by decide)
  have x66 : X' 66 = X 66 := hx 66 (by decide) (by decide) (by decide)
  have x67 : X' 67 = X 67 := hx 67 (by decide) (by decide) (by decide)
  have x40 : X' 40 = X 40 := hx 40 (by decide) (by decide) (by decide)
  refine ⟨?_, ?_, ?_, ?_, ?_, ?_, ?_, ?_, ?_, ?_, ?_, ?_, ?_, ?_, ?_, ?_, ?_, ?_, ?_, ?_, ?_, ?_, ?_, ?_, ?_, ?_, ?_, ?_, ?_, ?_, ?_, ?_, ?_, trivial⟩
  · -- day
    simp only [nC, nS, nF, nR, k0, k4, k5, k6, k7, k8, k9, k11, k12, k13, k14, k15, k16, l0, l1, l2, l3, lk1, lk2, x44, x45, x46, x47, x48, x49, x51, x52, x53, x54, x55, x56, x58, x59, x60, x61, x62, x64, x65, x66, x67, x40]; exact rm_day h
  · -- term
    simp only [nC, nS, nF, nR, k0, k4, k5, k6, k7, k8, k9, k11, k12, k13, k14, k15, k16, l0, l1, l2, l3, lk1, lk2, x44, x45, x46, x47, x48, x49, x51, x52, x53, x54, x55, x56, x58, x59, x60, x61, x62, x64, x65, x66, x67, x40]; exact rm_term h
  · -- nC
    simp only [nC, nS, nF, nR, k0, k4, k5, k6, k7, k8, k9, k11, k12, k13, k14, k15, k16, l0, l1, l2, l3, lk1, lk2, x44, x45, x46, x47, x48, x49, x51, x52, x53, x54, x55, x56, x58, x59, x60, x61, x62, x64, x65, x66, x67, x40]; exact rm_nC h
  · -- nS
    simp only [nC, nS, nF, nR, k0, k4, k5, k6, k7, k8, k9, k11, k12, k13, k14, k15, k16, l0, l1, l2, l3, lk1, lk2, x44, x45, x46, x47, x48, x49, x51, x52, x53, x54, x55, x56, x58, x59, x60, x61, x62, x64, x65, x66, x67, x40]; exact rm_nS h
  · -- nF
    simp only [nC, nS, nF, nR, k0, k4, k5, k6, k7, k8, k9, k11, k12, k13, k14, k15, k16, l0, l1, l2, l3, lk1, lk2, x44, x45, x46, x47, x48, x49, x51, x52, x53, x54, x55, x56, x58, x59, x60, x61, x62, x64, x65, x66, x67, x40]; exact rm_nF h
  · -- nR
    simp only [nC, nS, nF, nR, k0, k4, k5, k6, k7, k8, k9, k11, k12, k13, k14, k15, k16, l0, l1, l2, l3, lk1, lk2, x44, x45, x46, x47, x48, x49, x51, x52, x53, x54, x55, x56, x58, x59, x60, x61, x62, x64, x65, x66, x67, x40]; exact rm_nR h
  · -- crd
    simp only [nC, nS, nF, nR, k0, k4, k5, k6, k7, k8, k9, k11, k12, k13, k14, k15, k16, l0, l1, l2, l3, lk1, lk2, x44, x45, x46, x47, x48, x49, x51, x52, x53, x54, x55, x56, x58, x59, x60, x61, x62, x64, x65, x66, x67, x40]; exact rm_crd h
  · -- sea
    simp only [nC, nS, nF, nR, k0, k4, k5, k6, k7, k8, k9, k11, k12, k13, k14, k15, k16, l0, l1, l2, l3, lk1, lk2, x44, x45, x46, x47, x48, x49, x51, x52, x53, x54, x55, x56, x58, x59, x60, x61, x62, x64, x65, x66, x67, x40]; exact rm_sea h
  · -- res
    simp only [nC, nS, nF, nR, k0, k4, k5, k6, k7, k8, k9, k11, k12, k13, k14, k15, k16, l0, l1, l2, l3, lk1, lk2, x44, x45, x46, x47, x48, x49, x51, x52, x53, x54, x55, x56, x58, x59, x60, x61, x62, x64, x65, x66, x67, x40]; exact rm_res h
  · -- res0
    simp only [nC, nS, nF, nR, k0, k4, k5, k6, k7, k8, k9, k11, k12, k13, k14, k15, k16, l0, l1, l2, l3, lk1, lk2, x44, x45, x46, x47, x48, x49, x51, x52, x53, x54, x55, x56, x58, x59, x60, x61, x62, x64, x65, x66, x67, x40]; exact rm_res0 h
  · -- req
    simp only [nC, nS, nF, nR, k0, k4, k5, k6, k7, k8, k9, k11, k12, k13, k14, k15, k16, l0, l1, l2, l3, lk1, lk2, x44, x45, x46, x47, x48, x49, x51, x52, x53, x54, x55, x56, x58, x59, x60, x61, x62, x64, x65, x66, x67, x40]; exact rm_req h
  · -- wN
    simp only [nC, nS, nF, nR, k0, k4, k5, k6, k7, k8, k9, k11, k12, k13, k14, k15, k16, l0, l1, l2, l3, lk1, lk2, x44, x45, x46, x47, x48, x49, x51, x52, x53, x54, x55, x56, x58, x59, x60, x61, x62, x64, x65, x66, x67, x40]; exact rm_wN h
  · -- wN0
    simp only [nC, nS, nF, nR, k0, k4, k5, k6, k7, k8, k9, k11, k12, k13, k14, k15, k16, l0, l1, l2, l3, lk1, lk2, x44, x45, x46, x47, x48, x49, x51, x52, x53, x54, x55, x56, x58, x59, x60, x61, x62, x64, x65, x66, x67, x40]; exact rm_wN0 h
  · -- wA
    simp only [nC, nS, nF, nR, k0, k4, k5, k6, k7, k8, k9, k11, k12, k13, k14, k15, k16, l0, l1, l2, l3, lk1, lk2, x44, x45, x46, x47, x48, x49, x51, x52, x53, x54, x55, x56, x58, x59, x60, x61, x62, x64, x65, x66, x67, x40]; exact rm_wA h
  · -- maj
    simp only [nC, nS, nF, nR, k0, k4, k5, k6, k7, k8, k9, k11, k12, k13, k14, k15, k16, l0, l1, l2, l3, lk1, lk2, x44, x45, x46, x47, x48, x49, x51, x52, x53, x54, x55, x56, x58, x59, x60, x61, x62, x64, x65, x66, x67, x40]; exact rm_maj h
  · -- tak
    simp only [nC, nS, nF, nR, k0, k4, k5, k6, k7, k8, k9, k11, k12, k13, k14, k15, k16, l0, l1, l2, l3, lk1, lk2, x44, x45, x46, x47, x48, x49, x51, x52, x53, x54, x55, x56, x58, x59, x60, x61, x62, x64, x65, x66, x67, x40]; exact rm_tak h
  · -- tak0
    simp only [nC, nS, nF, nR, k0, k4, k5, k6, k7, k8, k9, k11, k12, k13, k14, k15, k16, l0, l1, l2, l3, lk1, lk2, x44, x45, x46, x47, x48, x49, x51, x52, x53, x54, x55, x56, x58, x59, x60, x61, x62, x64, x65, x66, x67, x40]; exact rm_tak0 h
  · -- mov
    simp only [nC, nS, nF, nR, k0, k4, k5, k6, k7, k8, k9, k11, k12, k13, k14, k15, k16, l0, l1, l2, l3, lk1, lk2, x44, x45, x46, x47, x48, x49, x51, x52, x53, x54, x55, x56, x58, x59, x60, x61, x62, x64, x65, x66, x67, x40]; exact rm_mov h
  · -- mov0
    simp only [nC, nS, nF, nR, k0, k4, k5, k6, k7, k8, k9, k11, k12, k13, k14, k15, k16, l0, l1, l2, l3, lk1, lk2, x44, x45, x46, x47, x48, x49, x51, x52, x53, x54, x55, x56, x58, x59, x60, x61, x62, x64, x65, x66, x67, x40]; exact rm_mov0 h
  · -- tm
    simp only [nC, nS, nF, nR, k0, k4, k5, k6, k7, k8, k9, k11, k12, k13, k14, k15, k16, l0, l1, l2, l3, lk1, lk2, x44, x45, x46, x47, x48, x49, x51, x52, x53, x54, x55, x56, x58, x59, x60, x61, x62, x64, x65, x66, x67, x40]; exact rm_tm h
  · -- tm0
    simp only [nC, nS, nF, nR, k0, k4, k5, k6, k7, k8, k9, k11, k12, k13, k14, k15, k16, l0, l1, l2, l3, lk1, lk2, x44, x45, x46, x47, x48, x49, x51, x52, x53, x54, x55, x56, x58, x59, x60, x61, x62, x64, x65, x66, x67, x40]; exact rm_tm0 h
  · -- tri
    simp only [nC, nS, nF, nR, k0, k4, k5, k6, k7, k8, k9, k11, k12, k13, k14, k15, k16, l0, l1, l2, l3, lk1, lk2, x44, x45, x46, x47, x48, x49, x51, x52, x53, x54, x55, x56, x58, x59, x60, x61, x62, x64, x65, x66, x67, x40]; exact rm_tri h
  · -- tri0
    simp only [nC, nS, nF, nR, k0, k4, k5, k6, k7, k8, k9, k11, k12, k13, k14, k15, k16, l0, l1, l2, l3, lk1, lk2, x44, x45, x46, x47, x48, x49, x51, x52, x53, x54, x55, x56, x58, x59, x60, x61, x62, x64, x65, x66, x67, x40]; exact rm_tri0 h
  · -- trd
    simp only [nC, nS, nF, nR, k0, k4, k5, k6, k7, k8, k9, k11, k12, k13, k14, k15, k16, l0, l1, l2, l3, lk1, lk2, x44, x45, x46, x47, x48, x49, x51, x52, x53, x54, x55, x56, x58, x59, x60, x61, x62, x64, x65, x66, x67, x40]; exact rm_trd h
  · -- dep
    simp only [nC, nS, nF, nR, k0, k4, k5, k6, k7, k8, k9, k11, k12, k13, k14, k15, k16, l0, l1, l2, l3, lk1, lk2, x44, x45, x46, x47, x48, x49, x51, x52, x53, x54, x55, x56, x58, x59, x60, x61, x62, x64, x65, x66, x67, x40]; exact rm_dep h
  · -- f0
    simp only [nC, nS, nF, nR, k0, k4, k5, k6, k7, k8, k9, k11, k12, k13, k14, k15, k16, l0, l1, l2, l3, lk1, lk2, x44, x45, x46, x47, x48, x49, x51, x52, x53, x54, x55, x56, x58, x59, x60, x61, x62, x64, x65, x66, x67, x40]; exact rm_f0 h
  · -- f1
    simp only [nC, nS, nF, nR, k0, k4, k5, k6, k7, k8, k9, k11, k12, k13, k14, k15, k16, l0, l1, l2, l3, lk1, lk2, x44, x45, x46, x47, x48, x49, x51, x52, x53, x54, x55, x56, x58, x59, x60, x61, x62, x64, x65, x66, x67, x40]; exact rm_f1 h
  · -- f2
    simp only [nC, nS, nF, nR, k0, k4, k5, k6, k7, k8, k9, k11, k12, k13, k14, k15, k16, l0, l1, l2, l3, lk1, lk2, x44, x45, x46, x47, x48, x49, x51, x52, x53, x54, x55, x56, x58, x59, x60, x61, x62, x64, x65, x66, x67, x40]; exact rm_f2 h
  · -- f3
    simp only [nC, nS, nF, nR, k0, k4, k5, k6, k7, k8, k9, k11, k12, k13, k14, k15, k16, l0, l1, l2, l3, lk1, lk2, x44, x45, x46, x47, x48, x49, x51, x52, x53, x54, x55, x56, x58, x59, x60, x61, x62, x64, x65, x66, x67, x40]; exact rm_f3 h
  · -- f4
    simp only [nC, nS, nF, nR, k0, k4, k5, k6, k7, k8, k9, k11, k12, k13, k14, k15, k16, l0, l1, l2, l3, lk1, lk2, x44, x45, x46, x47, x48, x49, x51, x52, x53, x54, x55, x56, x58, x59, x60, x61, x62, x64, x65, x66, x67, x40]; exact rm_f4 h
  · -- rul
    simp only [nC, nS, nF, nR, k0, k4, k5, k6, k7, k8, k9, k11, k12, k13, k14, k15, k16, l0, l1, l2, l3, lk1, lk2, x44, x45, x46, x47, x48, x49, x51, x52, x53, x54, x55, x56, x58, x59, x60, x61, x62, x64, x65, x66, x67, x40]; exact rm_rul h
  · -- alw
    simp only [nC, nS, nF, nR, k0, k4, k5, k6, k7, k8, k9, k11, k12, k13, k14, k15, k16, l0, l1, l2, l3, lk1, lk2, x44, x45, x46, x47, x48, x49, x51, x52, x53, x54, x55, x56, x58, x59, x60, x61, x62, x64, x65, x66, x67, x40]; exact rm_alw h
  · -- deg
    intro m2 h2; rw [h68, xs_at]; by_cases e : m2 = m; (rw [if_pos e, if_pos e]); (rw [if_neg e, if_neg e]; exact rm_deg h m2 h2)
set_option maxHeartbeats 2000000 in
theorem rm_al {O X X' : XM} (h : RM O X) {r c : Nat} (hr : (r : Int) < nR O) (hc : c < 20) (hx : ∀ k, 40 ≤ k → k ≤ 68 → k ≠ 67 → X' k = X k) (h67 : ∀ j, X' 67 0 j = if j = r then (((X 67 0 r).toNat ||| 1 <<< c : Nat) : Int) else X 67 0 j) : RM (xs O 15 r c 1) X' := by
  have k0 : (xs O 15 r c 1) 0 = O 0 := xs_nk (by decide)
  have k3 : (xs O 15 r c 1) 3 = O 3 := xs_nk (by decide)
  have k4 : (xs O 15 r c 1) 4 = O 4 := xs_nk (by decide)
  have k5 : (xs O 15 r c 1) 5 = O 5 := xs_nk (by decide)
  have k6 : (xs O 15 r c 1) 6 = O 6 := xs_nk (by decide)
  have k7 : (xs O 15 r c 1) 7 = O 7 := xs_nk (by decide)
  have k8 : (xs O 15 r c 1) 8 = O 8 := xs_nk (by decide)
  have k9 : (xs O 15 r c 1) 9 = O 9 := xs_nk (by decide)
  have k11 : (xs O 15 r c 1) 11 = O 11 := xs_nk (by decide)
  have k12 : (xs O 15 r c 1) 12 = O 12 := xs_nk (by decide)
  have k13 : (xs O 15 r c 1) 13 = O 13 := xs_nk (by decide)
  have k14 : (xs O 15 r c 1) 14 = O 14 := xs_nk (by decide)
  have k16 : (xs O 15 r c 1) 16 = O 16 := xs_nk (by decide)
  have l0 : (xs O 15 r c 1) 1 0 2 = O 1 0 2 := by rw [xs_nk (by decide)]
  have l1 : (xs O 15 r c 1) 1 1 2 = O 1 1 2 := by rw [xs_nk (by decide)]
  have l2 : (xs O 15 r c 1) 1 2 2 = O 1 2 2 := by rw [xs_nk (by decide)]
  have l3 : (xs O 15 r c 1) 1 3 2 = O 1 3 2 := by rw [xs_nk (by decide)]
  have lk1 : (xs O 15 r c 1) 1 = O 1 := xs_nk (by decide)
  have lk2 : (xs O 15 r c 1) 2 = O 2 := xs_nk (by decide)
  have nCe : nC (xs O 15 r c 1) = nC O := l0
  have nSe : nS (xs O 15 r c 1) = nS O := l1
  have nFe : nF (xs O 15 r c 1) = nF O := l2
  have nRe : nR (xs O 15 r c 1) = nR O := l3
  have x44 : X' 44 = X 44 := hx 44 (by decide) (by decide) (by decide)
  have x45 : X' 45 = X 45 := hx 45 (by decide) (by decide) (by decide)
  have x46 : X' 46 = X 46 := hx 46 (by decide) (by decide) (by decide)
  have x47 : X' 47 = X 47 := hx 47 (by decide) (by decide) (by decide)
  have x48 : X' 48 = X 48 := hx 48 (by decide) (by decide) (by decide)
  have x49 : X' 49 = X 49 := hx 49 (by decide) (by decide) (by decide)
  have x51 : X' 51 = X 51 := hx 51 (by decide) (by decide) (by decide)
  have x52 : X' 52 = X 52 := hx 52 (by decide) (by decide) (by decide)
  have x53 : X' 53 = X 53 := hx 53 (by decide) (by decide) (by decide)
  have x54 : X' 54 = X 54 := hx 54 (by decide) (by decide) (by decide)
  have x55 : X' 55 = X 55 := hx 55 (by decide) (by decide) (by decide)
  have x56 : X' 56 = X 56 := hx 56 (by decide) (by decide) (by decide)
  have x58 : X' 58 = X 58 := hx 58 (by decide) (by decide) (by decide)
  have x59 : X' 59 = X 59 := hx 59 (by decide) (by decide) (by decide)
  have x60 : X' 60 = X 60 := hx 60 (by decide) (by decide) (by decide)
  have x61 : X' 61 = X 61 := hx 61 (by decide) (by decide) (by decide)
  have x62 : X' 62 = X 62 := hx 62 (by decide) (by decide) (by decide)
  have x64 : X' 64 = X 64 := hx 64 (by decide) (by decide) (by decide)
  have x65 : X' 65 = X 65 := hx 65 (by decide) (by decide) (by decide)
  have x66 : X' 66 = X 66 := hx 66 (by decide) (by decide) (by decide)
  have x68 : X' 68 = X 68 := hx 68 (by decide) (by decide) (by decide)
  have x40 : X' 40 = X 40 := hx 40 (by decide) (by decide) (by decide)
  refine ⟨?_, ?_, ?_, ?_, ?_, ?_, ?_, ?_, ?_, ?_, ?_, ?_, ?_, ?_, ?_, ?_, ?_, ?_, ?_, ?_, ?_, ?_, ?_, ?_, ?_, ?_, ?_, ?_, ?_, ?_, ?_, ?_, ?_, trivial⟩
  · -- day
    simp only [nC, nS, nF, nR, k0, k3, k4, k5, k6, k7, k8, k9, k11, k12, k13, k14, k16, l0, l1, l2, l3, lk1, lk2, x44, x45, x46, x47, x48, x49, x51, x52, x53, x54, x55, x56, x58, x59, x60, x61, x62, x64, x65, x66, x68, x40]; exact rm_day h
  · -- term
    simp only [nC, nS, nF, nR, k0, k3, k4, k5, k6, k7, k8, k9, k11, k12, k13, k14, k16, l0, l1, l2, l3, lk1, lk2, x44, x45, x46, x47, x48, x49, x51, x52, x53, x54, x55, x56, x58, x59, x60, x61, x62, x64, x65, x66, x68, x40]; exact rm_term h
  · -- nC
    simp only [nC, nS, nF, nR, k0, k3, k4, k5, k6, k7, k8, k9, k11, k12, k13, k14, k16, l0, l1, l2, l3, lk1, lk2, x44, x45, x46, x47, x48, x49, x51, x52, x53, x54, x55, x56, x58, x59, x60, x61, x62, x64, x65, x66, x68, x40]; exact rm_nC h
  · -- nS
    simp only [nC, nS, nF, nR, k0, k3, k4, k5, k6, k7, k8, k9, k11, k12, k13, k14, k16, l0, l1, l2, l3, lk1, lk2, x44, x45, x46, x47, x48, x49, x51, x52, x53, x54, x55, x56, x58, x59, x60, x61, x62, x64, x65, x66, x68, x40]; exact rm_nS h
  · -- nF
    simp only [nC, nS, nF, nR, k0, k3, k4, k5, k6, k7, k8, k9, k11, k12, k13, k14, k16, l0, l1, l2, l3, lk1, lk2, x44, x45, x46, x47, x48, x49, x51, x52, x53, x54, x55, x56, x58, x59, x60, x61, x62, x64, x65, x66, x68, x40]; exact rm_nF h
  · -- nR
    simp only [nC, nS, nF, nR, k0, k3, k4, k5, k6, k7, k8, k9, k11, k12, k13, k14, k16, l0, l1, l2, l3, lk1, lk2, x44, x45, x46, x47, x48, x49, x51, x52, x53, x54, x55, x56, x58, x59, x60, x61, x62, x64, x65, x66, x68, x40]; exact rm_nR h
  · -- crd
    simp only [nC, nS, nF, nR, k0, k3, k4, k5, k6, k7, k8, k9, k11, k12, k13, k14, k16, l0, l1, l2, l3, lk1, lk2, x44, x45, x46, x47, x48, x49, x51, x52, x53, x54, x55, x56, x58, x59, x60, x61, x62, x64, x65, x66, x68, x40]; exact rm_crd h
  · -- sea
    simp only [nC, nS, nF, nR, k0, k3, k4, k5, k6, k7, k8, k9, k11, k12, k13, k14, k16, l0, l1, l2, l3, lk1, lk2, x44, x45, x46, x47, x48, x49, x51, x52, x53, x54, x55, x56, x58, x59, x60, x61, x62, x64, x65, x66, x68, x40]; exact rm_sea h
  · -- res
    simp only [nC, nS, nF, nR, k0, k3, k4, k5, k6, k7, k8, k9, k11, k12, k13, k14, k16, l0, l1, l2, l3, lk1, lk2, x44, x45, x46, x47, x48, x49, x51, x52, x53, x54, x55, x56, x58, x59, x60, x61, x62, x64, x65, x66, x68, x40]; exact rm_res h
  · -- res0
    simp only [nC, nS, nF, nR, k0, k3, k4, k5, k6, k7, k8, k9, k11, k12, k13, k14, k16, l0, l1, l2, l3, lk1, lk2, x44, x45, x46, x47, x48, x49, x51, x52, x53, x54, x55, x56, x58, x59, x60, x61, x62, x64, x65, x66, x68, x40]; exact rm_res0 h
  · -- req
    simp only [nC, nS, nF, nR, k0, k3, k4, k5, k6, k7, k8, k9, k11, k12, k13, k14, k16, l0, l1, l2, l3, lk1, lk2, x44, x45, x46, x47, x48, x49, x51, x52, x53, x54, x55, x56, x58, x59, x60, x61, x62, x64, x65, x66, x68, x40]; exact rm_req h
  · -- wN
    simp only [nC, nS, nF, nR, k0, k3, k4, k5, k6, k7, k8, k9, k11, k12, k13, k14, k16, l0, l1, l2, l3, lk1, lk2, x44, x45, x46, x47, x48, x49, x51, x52, x53, x54, x55, x56, x58, x59, x60, x61, x62, x64, x65, x66, x68, x40]; exact rm_wN h
  · -- wN0
    simp only [nC, nS, nF, nR, k0, k3, k4, k5, k6, k7, k8, k9, k11, k12, k13, k14, k16, l0, l1, l2, l3, lk1, lk2, x44, x45, x46, x47, x48, x49, x51, x52, x53, x54, x55, x56, x58, x59, x60, x61, x62, x64, x65, x66, x68, x40]; exact rm_wN0 h
  · -- wA
    simp only [nC, nS, nF, nR, k0, k3, k4, k5, k6, k7, k8, k9, k11, k12, k13, k14, k16, l0, l1, l2, l3, lk1, lk2, x44, x45, x46, x47, x48, x49, x51, x52, x53, x54, x55, x56, x58, x59, x60, x61, x62, x64, x65, x66, x68, x40]; exact rm_wA h
  · -- maj
    simp only [nC, nS, nF, nR, k0, k3, k4, k5, k6, k7, k8, k9, k11, k12, k13, k14, k16, l0, l1, l2, l3, lk1, lk2, x44, x45, x46, x47, x48, x49, x51, x52, x53, x54, x55, x56, x58, x59, x60, x61, x62, x64, x65, x66, x68, x40]; exact rm_maj h
  · -- tak
    simp only [nC, nS, nF, nR, k0, k3, k4, k5, k6, k7, k8, k9, k11, k12, k13, k14, k16, l0, l1, l2, l3, lk1, lk2, x44, x45, x46, x47, x48, x49, x51, x52, x53, x54, x55, x56, x58, x59, x60, x61, x62, x64, x65, x66, x68, x40]; exact rm_tak h
  · -- tak0
    simp only [nC, nS, nF, nR, k0, k3, k4, k5, k6, k7, k8, k9, k11, k12, k13, k14, k16, l0, l1, l2, l3, lk1, lk2, x44, x45, x46, x47, x48, x49, x51, x52, x53, x54, x55, x56, x58, x59, x60, x61, x62, x64, x65, x66, x68, x40]; exact rm_tak0 h
  · -- mov
    simp only [nC, nS, nF, nR, k0, k3, k4, k5, k6, k7, k8, k9, k11, k12, k13, k14, k16, l0, l1, l2, l3, lk1, lk2, x44, x45, x46, x47, x48, x49, x51, x52, x53, x54, x55, x56, x58, x59, x60, x61, x62, x64, x65, x66, x68, x40]; exact rm_mov h
  · -- mov0
    simp only [nC, nS, nF, nR, k0, k3, k4, k5, k6, k7, k8, k9, k11, k12, k13, k14, k16, l0, l1, l2, l3, lk1, lk2, x44, x45, x46, x47, x48, x49, x51, x52, x53, x54, x55, x56, x58, x59, x60, x61, x62, x64, x65, x66, x68, x40]; exact rm_mov0 h
  · -- tm
    simp only [nC, nS, nF, nR, k0, k3, k4, k5, k6, k7, k8, k9, k11, k12, k13, k14, k16, l0, l1, l2, l3, lk1, lk2, x44, x45, x46, x47, x48, x49, x51, x52, x53, x54, x55, x56, x58, x59, x60, x61, x62, x64, x65, x66, x68, x40]; exact rm_tm h
  · -- tm0
    simp only [nC, nS, nF, nR, k0, k3, k4, k5, k6, k7, k8, k9, k11, k12, k13, k14, k16, l0, l1, l2, l3, lk1, lk2, x44, x45, x46, x47, x48, x49, x51, x52, x53, x54, x55, x56, x58, x59, x60, x61, x62, x64, x65, x66, x68, x40]; exact rm_tm0 h
  · -- tri
    simp only [nC, nS, nF, nR, k0, k3, k4, k5, k6, k7, k8, k9, k11, k12, k13, k14, k16, l0, l1, l2, l3, lk1, lk2, x44, x45, x46, x47, x48, x49, x51, x52, x53, x54, x55, x56, x58, x59, x60, x61, x62, x64, x65, x66, x68, x40]; exact rm_tri h
  · -- tri0
    simp only [nC, nS, nF, nR, k0, k3, k4, k5, k6, k7, k8, k9, k11, k12, k13, k14, k16, l0, l1, l2, l3, lk1, lk2, x44, x45, x46, x47, x48, x49, x51, x52, x53, x54, x55, x56, x58, x59, x60, x61, x62, x64, x65, x66, x68, x40]; exact rm_tri0 h
  · -- trd
    simp only [nC, nS, nF, nR, k0, k3, k4, k5, k6, k7, k8, k9, k11, k12, k13, k14, k16, l0, l1, l2, l3, lk1, lk2, x44, x45, x46, x47, x48, x49, x51, x52, x53, x54, x55, x56, x58, x59, x60, x61, x62, x64, x65, x66, x68, x40]; exact rm_trd h
  · -- dep
    simp only [nC, nS, nF, nR, k0, k3, k4, k5, k6, k7, k8, k9, k11, k12, k13, k14, k16, l0, l1, l2, l3, lk1, lk2, x44, x45, x46, x47, x48, x49, x51, x52, x53, x54, x55, x56, x58, x59, x60, x61, x62, x64, x65, x66, x68, x40]; exact rm_dep h
  · -- f0
    simp only [nC, nS, nF, nR, k0, k3, k4, k5, k6, k7, k8, k9, k11, k12, k13, k14, k16, l0, l1, l2, l3, lk1, lk2, x44, x45, x46, x47, x48, x49, x51, x52, x53, x54, x55, x56, x58, x59, x60, x61, x62, x64, x65, x66, x68, x40]; exact rm_f0 h
  · -- f1
    simp only [nC, nS, nF, nR, k0, k3, k4, k5, k6, k7, k8, k9, k11, k12, k13, k14, k16, l0, l1, l2, l3, lk1, lk2, x44, x45, x46, x47, x48, x49, x51, x52, x53, x54, x55, x56, x58, x59, x60, x61, x62, x64, x65, x66, x68, x40]; exact rm_f1 h
  · -- f2
    simp only [nC, nS, nF, nR, k0, k3, k4, k5, k6, k7, k8, k9, k11, k12, k13, k14, k16, l0, l1, l2, l3, lk1, lk2, x44, x45, x46, x47, x48, x49, x51, x52, x53, x54, x55, x56, x58, x59, x60, x61, x62, x64, x65, x66, x68, x40]; exact rm_f2 h
  · -- f3
    simp only [nC, nS, nF, nR, k0, k3, k4, k5, k6, k7, k8, k9, k11, k12, k13, k14, k16, l0, l1, l2, l3, lk1, lk2, x44, x45, x46, x47, x48, x49, x51, x52, x53, x54, x55, x56, x58, x59, x60, x61, x62, x64, x65, x66, x68, x40]; exact rm_f3 h
  · -- f4
    simp only [nC, nS, nF, nR, k0, k3, k4, k5, k6, k7, k8, k9, k11, k12, k13, k14, k16, l0, l1, l2, l3, lk1, lk2, x44, x45, x46, x47, x48, x49, x51, x52, x53, x54, x55, x56, x58, x59, x60, x61, x62, x64, x65, x66, x68, x40]; exact rm_f4 h
  · -- rul
    simp only [nC, nS, nF, nR, k0, k3, k4, k5, k6, k7, k8, k9, k11, k12, k13, k14, k16, l0, l1, l2, l3, lk1, lk2, x44, x45, x46, x47, x48, x49, x51, x52, x53, x54, x55, x56, x58, x59, x60, x61, x62, x64, x65, x66, x68, x40]; exact rm_rul h
  · -- alw
    intro r2 h2; rw [nRe] at h2; rw [h67]; by_cases e : r2 = r; (subst e; rw [if_pos rfl]; exact bitsE_set (rm_alw h r2 h2) hc (by rw [xs_at, if_pos rfl]; decide) (fun j hj => by rw [xs_at, if_neg hj])); (rw [if_neg e, show xs O 15 r c 1 15 r2 = O 15 r2 from xs_ne (by omega)]; exact rm_alw h r2 h2)
  · -- deg
    simp only [nC, nS, nF, nR, k0, k3, k4, k5, k6, k7, k8, k9, k11, k12, k13, k14, k16, l0, l1, l2, l3, lk1, lk2, x44, x45, x46, x47, x48, x49, x51, x52, x53, x54, x55, x56, x58, x59, x60, x61, x62, x64, x65, x66, x68, x40]; exact rm_deg h
set_option maxHeartbeats 2000000 in
theorem rm_dy {O X X' : XM} (h : RM O X) {d : Int} (hx : ∀ k, 40 ≤ k → k ≤ 68 → k ≠ 40 → X' k = X k) (h40 : ∀ j, X' 40 0 j = if j = 1 then d else X 40 0 j) : RM (xs O 0 0 5 d) X' := by
  have k3 : (xs O 0 0 5 d) 3 = O 3 := xs_nk (by decide)
  have k4 : (xs O 0 0 5 d) 4 = O 4 := xs_nk (by decide)
  have k5 : (xs O 0 0 5 d) 5 = O 5 := xs_nk (by decide)
  have k6 : (xs O 0 0 5 d) 6 = O 6 := xs_nk (by decide)
  have k7 : (xs O 0 0 5 d) 7 = O 7 := xs_nk (by decide)
  have k8 : (xs O 0 0 5 d) 8 = O 8 := xs_nk (by decide)
  have k9 : (xs O 0 0 5 d) 9 = O 9 := xs_nk (by decide)
  have k11 : (xs O 0 0 5 d) 11 = O 11 := xs_nk (by decide)
  have k12 : (xs O 0 0 5 d) 12 = O 12 := xs_nk (by decide)
  have k13 : (xs O 0 0 5 d) 13 = O 13 := xs_nk (by decide)
  have k14 : (xs O 0 0 5 d) 14 = O 14 := xs_nk (by decide)
  have k15 : (xs O 0 0 5 d) 15 = O 15 := xs_nk (by decide)
  have k16 : (xs O 0 0 5 d) 16 = O 16 := xs_nk (by decide)
  have l0 : (xs O 0 0 5 d) 1 0 2 = O 1 0 2 := by rw [xs_nk (by decide)]
  have l1 : (xs O 0 0 5 d) 1 1 2 = O 1 1 2 := by rw [xs_nk (by decide)]
  have l2 : (xs O 0 0 5 d) 1 2 2 = O 1 2 2 := by rw [xs_nk (by decide)]
  have l3 : (xs O 0 0 5 d) 1 3 2 = O 1 3 2 := by rw [xs_nk (by decide)]
  have lk1 : (xs O 0 0 5 d) 1 = O 1 := xs_nk (by decide)
  have lk2 : (xs O 0 0 5 d) 2 = O 2 := xs_nk (by decide)
  have nCe : nC (xs O 0 0 5 d) = nC O := l0
  have nSe : nS (xs O 0 0 5 d) = nS O := l1
  have nFe : nF (xs O 0 0 5 d) = nF O := l2
  have nRe : nR (xs O 0 0 5 d) = nR O := l3
  have x44 : X' 44 = X 44 := hx 44 (by decide) (by decide) (by decide)
  have x45 : X' 45 = X 45 := hx 45 (by decide) (by decide) (by decide)
  have x46 : X' 46 = X 46 := hx 46 (by decide) (by decide) (by decide)
  have x47 : X' 47 = X 47 := hx 47 (by decide) (by decide) (by decide)
  have x48 : X' 48 = X 48 := hx 48 (by decide) (by decide) (by decide)
  have x49 : X' 49 = X 49 := hx 49 (by decide) (by decide) (by decide)
  have x51 : X' 51 = X 51 := hx 51 (by decide) (by decide) (by decide)
  have x52 : X' 52 = X 52 := hx 52 (by decide) (by decide) (by decide)
  have x53 : X' 53 = X 53 := hx 53 (by decide) (by decide) (by decide)
  have x54 : X' 54 = X 54 := hx 54 (by decide) (by decide) (by decide)
  have x55 : X' 55 = X 55 := hx 55 (by decide) (by decide) (by decide)
  have x56 : X' 56 = X 56 := hx 56 (by decide) (by decide) (by decide)
  have x58 : X' 58 = X 58 := hx 58 (by decide) (by decide) (by decide)
  have x59 : X' 59 = X 59 := hx 59 (by decide) (by decide) (by decide)
  have x60 : X' 60 = X 60 := hx 60 (by decide) (by decide) (by decide)
  have x61 : X' 61 = X 61 := hx 61 (by decide) (by decide) (by decide)
  have x62 : X' 62 = X 62 := hx 62 (by decide) (by decide) (by decide)
  have x64 : X' 64 = X 64 := hx 64 (by decide) (by decide) (by decide)
  have x65 : X' 65 = X 65 := hx 65 (by decide) (by decide) (by decide)
  have x66 : X' 66 = X 66 := hx 66 (by decide) (by decide) (by decide)
  have x67 : X' 67 = X 67 := hx 67 (by decide) (by decide) (by decide)
  have x68 : X' 68 = X 68 := hx 68 (by decide) (by decide) (by decide)
  refine ⟨?_, ?_, ?_, ?_, ?_, ?_, ?_, ?_, ?_, ?_, ?_, ?_, ?_, ?_, ?_, ?_, ?_, ?_, ?_, ?_, ?_, ?_, ?_, ?_, ?_, ?_, ?_, ?_, ?_, ?_, ?_, ?_, ?_, trivial⟩
  · -- day
    rw [h40, if_pos rfl, xs_at, if_pos rfl]
  · -- term
    rw [h40, if_neg (by decide), xs_at, if_neg (by decide)]; exact rm_term h
  · -- nC
    rw [nCe, h40, if_neg (by decide)]; exact rm_nC h
  · -- nS
    rw [nSe, h40, if_neg (by decide)]; exact rm_nS h
  · -- nF
    rw [nFe, h40, if_neg (by decide)]; exact rm_nF h
  · -- nR
    rw [nRe, h40, if_neg (by decide)]; exact rm_nR h
  · -- crd
    simp only [nC, nS, nF, nR, k3, k4, k5, k6, k7, k8, k9, k11, k12, k13, k14, k15, k16, l0, l1, l2, l3, lk1, lk2, x44, x45, x46, x47, x48, x49, x51, x52, x53, x54, x55, x56, x58, x59, x60, x61, x62, x64, x65, x66, x67, x68]; exact rm_crd h
  · -- sea
    simp only [nC, nS, nF, nR, k3, k4, k5, k6, k7, k8, k9, k11, k12, k13, k14, k15, k16, l0, l1, l2, l3, lk1, lk2, x44, x45, x46, x47, x48, x49, x51, x52, x53, x54, x55, x56, x58, x59, x60, x61, x62, x64, x65, x66, x67, x68]; exact rm_sea h
  · -- res
    simp only [nC, nS, nF, nR, k3, k4, k5, k6, k7, k8, k9, k11, k12, k13, k14, k15, k16, l0, l1, l2, l3, lk1, lk2, x44, x45, x46, x47, x48, x49, x51, x52, x53, x54, x55, x56, x58, x59, x60, x61, x62, x64, x65, x66, x67, x68]; exact rm_res h
  · -- res0
    simp only [nC, nS, nF, nR, k3, k4, k5, k6, k7, k8, k9, k11, k12, k13, k14, k15, k16, l0, l1, l2, l3, lk1, lk2, x44, x45, x46, x47, x48, x49, x51, x52, x53, x54, x55, x56, x58, x59, x60, x61, x62, x64, x65, x66, x67, x68]; exact rm_res0 h
  · -- req
    simp only [nC, nS, nF, nR, k3, k4, k5, k6, k7, k8, k9, k11, k12, k13, k14, k15, k16, l0, l1, l2, l3, lk1, lk2, x44, x45, x46, x47, x48, x49, x51, x52, x53, x54, x55, x56, x58, x59, x60, x61, x62, x64, x65, x66, x67, x68]; exact rm_req h
  · -- wN
    simp only [nC, nS, nF, nR, k3, k4, k5, k6, k7, k8, k9, k11, k12, k13, k14, k15, k16, l0, l1, l2, l3, lk1, lk2, x44, x45, x46, x47, x48, x49, x51, x52, x53, x54, x55, x56, x58, x59, x60, x61, x62, x64, x65, x66, x67, x68]; exact rm_wN h
  · -- wN0
    simp only [nC, nS, nF, nR, k3, k4, k5, k6, k7, k8, k9, k11, k12, k13, k14, k15, k16, l0, l1, l2, l3, lk1, lk2, x44, x45, x46, x47, x48, x49, x51, x52, x53, x54, x55, x56, x58, x59, x60, x61, x62, x64, x65, x66, x67, x68]; exact rm_wN0 h
  · -- wA
    simp only [nC, nS, nF, nR, k3, k4, k5, k6, k7, k8, k9, k11, k12, k13, k14, k15, k16, l0, l1, l2, l3, lk1, lk2, x44, x45, x46, x47, x48, x49, x51, x52, x53, x54, x55, x56, x58, x59, x60, x61, x62, x64, x65, x66, x67, x68]; exact rm_wA h
  · -- maj
    simp only [nC, nS, nF, nR, k3, k4, k5, k6, k7, k8, k9, k11, k12, k13, k14, k15, k16, l0, l1, l2, l3, lk1, lk2, x44, x45, x46, x47, x48, x49, x51, x52, x53, x54, x55, x56, x58, x59, x60, x61, x62, x64, x65, x66, x67, x68]; exact rm_maj h
  · -- tak
    simp only [nC, nS, nF, nR, k3, k4, k5, k6, k7, k8, k9, k11, k12, k13, k14, k15, k16, l0, l1, l2, l3, lk1, lk2, x44, x45, x46, x47, x48, x49, x51, x52, x53, x54, x55, x56, x58, x59, x60, x61, x62, x64, x65, x66, x67, x68]; exact rm_tak h
  · -- tak0
    simp only [nC, nS, nF, nR, k3, k4, k5, k6, k7, k8, k9, k11, k12, k13, k14, k15, k16, l0, l1, l2, l3, lk1, lk2, x44, x45, x46, x47, x48, x49, x51, x52, x53, x54, x55, x56, x58, x59, x60, x61, x62, x64, x65, x66, x67, x68]; exact rm_tak0 h
  · -- mov
    simp only [nC, nS, nF, nR, k3, k4, k5, k6, k7, k8, k9, k11, k12, k13, k14, k15, k16, l0, l1, l2, l3, lk1, lk2, x44, x45, x46, x47, x48, x49, x51, x52, x53, x54, x55, x56, x58, x59, x60, x61, x62, x64, x65, x66, x67, x68]; exact rm_mov h
  · -- mov0
    simp only [nC, nS, nF, nR, k3, k4, k5, k6, k7, k8, k9, k11, k12, k13, k14, k15, k16, l0, l1, l2, l3, lk1, lk2, x44, x45, x46, x47, x48, x49, x51, x52, x53, x54, x55, x56, x58, x59, x60, x61, x62, x64, x65, x66, x67, x68]; exact rm_mov0 h
  · -- tm
    simp only [nC, nS, nF, nR, k3, k4, k5, k6, k7, k8, k9, k11, k12, k13, k14, k15, k16, l0, l1, l2, l3, lk1, lk2, x44, x45, x46, x47, x48, x49, x51, x52, x53, x54, x55, x56, x58, x59, x60, x61, x62, x64, x65, x66, x67, x68]; exact rm_tm h
  · -- tm0
    simp only [nC, nS, nF, nR, k3, k4, k5, k6, k7, k8, k9, k11, k12, k13, k14, k15, k16, l0, l1, l2, l3, lk1, lk2, x44, x45, x46, x47, x48, x49, x51, x52, x53, x54, x55, x56, x58, x59, x60, x61, x62, x64, x65, x66, x67, x68]; exact rm_tm0 h
  · -- tri
    simp only [nC, nS, nF, nR, k3, k4, k5, k6, k7, k8, k9, k11, k12, k13, k14, k15, k16, l0, l1, l2, l3, lk1, lk2, x44, x45, x46, x47, x48, x49, x51, x52, x53, x54, x55, x56, x58, x59, x60, x61, x62, x64, x65, x66, x67, x68]; exact rm_tri h
  · -- tri0
    simp only [nC, nS, nF, nR, k3, k4, k5, k6, k7, k8, k9, k11, k12, k13, k14, k15, k16, l0, l1, l2, l3, lk1, lk2, x44, x45, x46, x47, x48, x49, x51, x52, x53, x54, x55, x56, x58, x59, x60, x61, x62, x64, x65, x66, x67, x68]; exact rm_tri0 h
  · -- trd
    simp only [nC, nS, nF, nR, k3, k4, k5, k6, k7, k8, k9, k11, k12, k13, k14, k15, k16, l0, l1, l2, l3, lk1, lk2, x44, x45, x46, x47, x48, x49, x51, x52, x53, x54, x55, x56, x58, x59, x60, x61, x62, x64, x65, x66, x67, x68]; exact rm_trd h
  · -- dep
    simp only [nC, nS, nF, nR, k3, k4, k5, k6, k7, k8, k9, k11, k12, k13, k14, k15, k16, l0, l1, l2, l3, lk1, lk2, x44, x45, x46, x47, x48, x49, x51, x52, x53, x54, x55, x56, x58, x59, x60, x61, x62, x64, x65, x66, x67, x68]; exact rm_dep h
  · -- f0
    simp only [nC, nS, nF, nR, k3, k4, k5, k6, k7, k8, k9, k11, k12, k13, k14, k15, k16, l0, l1, l2, l3, lk1, lk2, x44, x45, x46, x47, x48, x49, x51, x52, x53, x54, x55, x56, x58, x59, x60, x61, x62, x64, x65, x66, x67, x68]; exact rm_f0 h
  · -- f1
    simp only [nC, nS, nF, nR, k3, k4, k5, k6, k7, k8, k9, k11, k12, k13, k14, k15, k16, l0, l1, l2, l3, lk1, lk2, x44, x45, x46, x47, x48, x49, x51, x52, x53, x54, x55, x56, x58, x59, x60, x61, x62, x64, x65, x66, x67, x68]; exact rm_f1 h
  · -- f2
    simp only [nC, nS, nF, nR, k3, k4, k5, k6, k7, k8, k9, k11, k12, k13, k14, k15, k16, l0, l1, l2, l3, lk1, lk2, x44, x45, x46, x47, x48, x49, x51, x52, x53, x54, x55, x56, x58, x59, x60, x61, x62, x64, x65, x66, x67, x68]; exact rm_f2 h
  · -- f3
    simp only [nC, nS, nF, nR, k3, k4, k5, k6, k7, k8, k9, k11, k12, k13, k14, k15, k16, l0, l1, l2, l3, lk1, lk2, x44, x45, x46, x47, x48, x49, x51, x52, x53, x54, x55, x56, x58, x59, x60, x61, x62, x64, x65, x66, x67, x68]; exact rm_f3 h
  · -- f4
    simp only [nC, nS, nF, nR, k3, k4, k5, k6, k7, k8, k9, k11, k12, k13, k14, k15, k16, l0, l1, l2, l3, lk1, lk2, x44, x45, x46, x47, x48, x49, x51, x52, x53, x54, x55, x56, x58, x59, x60, x61, x62, x64, x65, x66, x67, x68]; exact rm_f4 h
  · -- rul
    simp only [nC, nS, nF, nR, k3, k4, k5, k6, k7, k8, k9, k11, k12, k13, k14, k15, k16, l0, l1, l2, l3, lk1, lk2, x44, x45, x46, x47, x48, x49, x51, x52, x53, x54, x55, x56, x58, x59, x60, x61, x62, x64, x65, x66, x67, x68]; exact rm_rul h
  · -- alw
    simp only [nC, nS, nF, nR, k3, k4, k5, k6, k7, k8, k9, k11, k12, k13, k14, k15, k16, l0, l1, l2, l3, lk1, lk2, x44, x45, x46, x47, x48, x49, x51, x52, x53, x54, x55, x56, x58, x59, x60, x61, x62, x64, x65, x66, x67, x68]; exact rm_alw h
  · -- deg
    simp only [nC, nS, nF, nR, k3, k4, k5, k6, k7, k8, k9, k11, k12, k13, k14, k15, k16, l0, l1, l2, l3, lk1, lk2, x44, x45, x46, x47, x48, x49, x51, x52, x53, x54, x55, x56, x58, x59, x60, x61, x62, x64, x65, x66, x67, x68]; exact rm_deg h
