/-! the calls that change one thing: what they keep -/
theorem wv_k {ν : Nat → Nat → Bool} {X X1 : XM} (h : WV ν X) (m1 : X1 1 = X 1) (m2 : X1 2 = X 2) : WV ν X1 := by
  unfold WV nS nC nR nF
  rw [m1, m2]
  exact h
set_option maxHeartbeats 2000000 in
theorem wo_cm {X : XM} (h : WO X) {s : Nat} {m : Int} (hm : 0 ≤ m ∧ m ≤ 3) : WO (xs X 4 s 0 m) := by
  have m1 : (xs X 4 s 0 m) 1 = X 1 := xs_nk (by decide)
  have m2 : (xs X 4 s 0 m) 2 = X 2 := xs_nk (by decide)
  have k0 : (xs X 4 s 0 m) 0 = X 0 := xs_nk (by decide)
  have k3 : (xs X 4 s 0 m) 3 = X 3 := xs_nk (by decide)
  have k5 : (xs X 4 s 0 m) 5 = X 5 := xs_nk (by decide)
  have k6 : (xs X 4 s 0 m) 6 = X 6 := xs_nk (by decide)
  have k7 : (xs X 4 s 0 m) 7 = X 7 := xs_nk (by decide)
  have k8 : (xs X 4 s 0 m) 8 = X 8 := xs_nk (by decide)
  have k9 : (xs X 4 s 0 m) 9 = X 9 := xs_nk (by decide)
  have k11 : (xs X 4 s 0 m) 11 = X 11 := xs_nk (by decide)
  have k12 : (xs X 4 s 0 m) 12 = X 12 := xs_nk (by decide)
  have k13 : (xs X 4 s 0 m) 13 = X 13 := xs_nk (by decide)
  have k14 : (xs X 4 s 0 m) 14 = X 14 := xs_nk (by decide)
  have k15 : (xs X 4 s 0 m) 15 = X 15 := xs_nk (by decide)
  have k16 : (xs X 4 s 0 m) 16 = X 16 := xs_nk (by decide)
  have l0 : (xs X 4 s 0 m) 1 0 2 = X 1 0 2 := by rw [xs_nk (by decide)]
  have l1 : (xs X 4 s 0 m) 1 1 2 = X 1 1 2 := by rw [xs_nk (by decide)]
  have l2 : (xs X 4 s 0 m) 1 2 2 = X 1 2 2 := by rw [xs_nk (by decide)]
  have l3 : (xs X 4 s 0 m) 1 3 2 = X 1 3 2 := by rw [xs_nk (by decide)]
  have kb : bsT (xs X 4 s 0 m) = bsT X := bsT_cg k6 k11
  refine ⟨?_, ?_, ?_, ?_, ?_, ?_, ?_, ?_, ?_, ?_, ?_, ?_, ?_, ?_, ?_, ?_, ?_, ?_, ?_, ?_, ?_, ?_, ?_, ?_, ?_, ?_, ?_, ?_, ?_, ?_, ?_, ?_, ?_, ?_, ?_, ?_, ?_, trivial⟩
  · -- nC
    simp only [nC, nS, nF, nR, k0, k3, k5, k6, k7, k8, k9, k11, k12, k13, k14, k15, k16, l0, l1, l2, l3, kb]; exact wo_nC h
  · -- nS
    simp only [nC, nS, nF, nR, k0, k3, k5, k6, k7, k8, k9, k11, k12, k13, k14, k15, k16, l0, l1, l2, l3, kb]; exact wo_nS h
  · -- nF
    simp only [nC, nS, nF, nR, k0, k3, k5, k6, k7, k8, k9, k11, k12, k13, k14, k15, k16, l0, l1, l2, l3, kb]; exact wo_nF h
  · -- nR
    simp only [nC, nS, nF, nR, k0, k3, k5, k6, k7, k8, k9, k11, k12, k13, k14, k15, k16, l0, l1, l2, l3, kb]; exact wo_nR h
  · -- day
    simp only [nC, nS, nF, nR, k0, k3, k5, k6, k7, k8, k9, k11, k12, k13, k14, k15, k16, l0, l1, l2, l3, kb]; exact wo_day h
  · -- term
    simp only [nC, nS, nF, nR, k0, k3, k5, k6, k7, k8, k9, k11, k12, k13, k14, k15, k16, l0, l1, l2, l3, kb]; exact wo_term h
  · -- crd
    simp only [nC, nS, nF, nR, k0, k3, k5, k6, k7, k8, k9, k11, k12, k13, k14, k15, k16, l0, l1, l2, l3, kb]; exact wo_crd h
  · -- sea
    simp only [nC, nS, nF, nR, k0, k3, k5, k6, k7, k8, k9, k11, k12, k13, k14, k15, k16, l0, l1, l2, l3, kb]; exact wo_sea h
  · -- req
    simp only [nC, nS, nF, nR, k0, k3, k5, k6, k7, k8, k9, k11, k12, k13, k14, k15, k16, l0, l1, l2, l3, kb]; exact wo_req h
  · -- res
    simp only [nC, nS, nF, nR, k0, k3, k5, k6, k7, k8, k9, k11, k12, k13, k14, k15, k16, l0, l1, l2, l3, kb]; exact wo_res h
  · -- wN
    simp only [nC, nS, nF, nR, k0, k3, k5, k6, k7, k8, k9, k11, k12, k13, k14, k15, k16, l0, l1, l2, l3, kb]; exact wo_wN h
  · -- wA
    simp only [nC, nS, nF, nR, k0, k3, k5, k6, k7, k8, k9, k11, k12, k13, k14, k15, k16, l0, l1, l2, l3, kb]; exact wo_wA h
  · -- maj
    intro s2 h2; simp only [nS, l1] at h2; rw [xs_all]; split; (exact hm); (exact wo_maj h s2 h2)
  · -- t01
    simp only [nC, nS, nF, nR, k0, k3, k5, k6, k7, k8, k9, k11, k12, k13, k14, k15, k16, l0, l1, l2, l3, kb]; exact wo_t01 h
  · -- m01
    simp only [nC, nS, nF, nR, k0, k3, k5, k6, k7, k8, k9, k11, k12, k13, k14, k15, k16, l0, l1, l2, l3, kb]; exact wo_m01 h
  · -- tm
    simp only [nC, nS, nF, nR, k0, k3, k5, k6, k7, k8, k9, k11, k12, k13, k14, k15, k16, l0, l1, l2, l3, kb]; exact wo_tm h
  · -- bst
    simp only [nC, nS, nF, nR, k0, k3, k5, k6, k7, k8, k9, k11, k12, k13, k14, k15, k16, l0, l1, l2, l3, kb]; exact wo_bst h
  · -- tri
    simp only [nC, nS, nF, nR, k0, k3, k5, k6, k7, k8, k9, k11, k12, k13, k14, k15, k16, l0, l1, l2, l3, kb]; exact wo_tri h
  · -- trd
    simp only [nC, nS, nF, nR, k0, k3, k5, k6, k7, k8, k9, k11, k12, k13, k14, k15, k16, l0, l1, l2, l3, kb]; exact wo_trd h
  · -- bsq
    simp only [nC, nS, nF, nR, k0, k3, k5, k6, k7, k8, k9, k11, k12, k13, k14, k15, k16, l0, l1, l2, l3, kb]; exact wo_bsq h
  · -- far
    simp only [nC, nS, nF, nR, k0, k3, k5, k6, k7, k8, k9, k11, k12, k13, k14, k15, k16, l0, l1, l2, l3, kb]; exact wo_far h
  · -- dep
    simp only [nC, nS, nF, nR, k0, k3, k5, k6, k7, k8, k9, k11, k12, k13, k14, k15, k16, l0, l1, l2, l3, kb]; exact wo_dep h
  · -- dp0
    simp only [nC, nS, nF, nR, k0, k3, k5, k6, k7, k8, k9, k11, k12, k13, k14, k15, k16, l0, l1, l2, l3, kb]; exact wo_dp0 h
  · -- fk
    simp only [nC, nS, nF, nR, k0, k3, k5, k6, k7, k8, k9, k11, k12, k13, k14, k15, k16, l0, l1, l2, l3, kb]; exact wo_fk h
  · -- f0
    simp only [nC, nS, nF, nR, k0, k3, k5, k6, k7, k8, k9, k11, k12, k13, k14, k15, k16, l0, l1, l2, l3, kb]; exact wo_f0 h
  · -- f1
    simp only [nC, nS, nF, nR, k0, k3, k5, k6, k7, k8, k9, k11, k12, k13, k14, k15, k16, l0, l1, l2, l3, kb]; exact wo_f1 h
  · -- f2
    simp only [nC, nS, nF, nR, k0, k3, k5, k6, k7, k8, k9, k11, k12, k13, k14, k15, k16, l0, l1, l2, l3, kb]; exact wo_f2 h
  · -- f3
    simp only [nC, nS, nF, nR, k0, k3, k5, k6, k7, k8, k9, k11, k12, k13, k14, k15, k16, l0, l1, l2, l3, kb]; exact wo_f3 h
  · -- f4
    simp only [nC, nS, nF, nR, k0, k3, k5, k6, k7, k8, k9, k11, k12, k13, k14, k15, k16, l0, l1, l2, l3, kb]; exact wo_f4 h
  · -- rul
    simp only [nC, nS, nF, nR, k0, k3, k5, k6, k7, k8, k9, k11, k12, k13, k14, k15, k16, l0, l1, l2, l3, kb]; exact wo_rul h
  · -- r01
    simp only [nC, nS, nF, nR, k0, k3, k5, k6, k7, k8, k9, k11, k12, k13, k14, k15, k16, l0, l1, l2, l3, kb]; exact wo_r01 h
  · -- rm4
    simp only [nC, nS, nF, nR, k0, k3, k5, k6, k7, k8, k9, k11, k12, k13, k14, k15, k16, l0, l1, l2, l3, kb]; exact wo_rm4 h
  · -- tk3
    simp only [nC, nS, nF, nR, k0, k3, k5, k6, k7, k8, k9, k11, k12, k13, k14, k15, k16, l0, l1, l2, l3, kb]; exact wo_tk3 h
  · -- w6
    simp only [nC, nS, nF, nR, k0, k3, k5, k6, k7, k8, k9, k11, k12, k13, k14, k15, k16, l0, l1, l2, l3, kb]; exact wo_w6 h
  · -- wt3
    simp only [nC, nS, nF, nR, k0, k3, k5, k6, k7, k8, k9, k11, k12, k13, k14, k15, k16, l0, l1, l2, l3, kb]; exact wo_wt3 h
  · -- deg
    simp only [nC, nS, nF, nR, k0, k3, k5, k6, k7, k8, k9, k11, k12, k13, k14, k15, k16, l0, l1, l2, l3, kb]; exact wo_deg h
  · -- f7
    simp only [nC, nS, nF, nR, k0, k3, k5, k6, k7, k8, k9, k11, k12, k13, k14, k15, k16, l0, l1, l2, l3, kb]; exact wo_f7 h
theorem wx_cm {ν : Nat → Nat → Bool} {X : XM} (h : WX ν X) {s : Nat} {m : Int} (hm : 0 ≤ m ∧ m ≤ 3) : WX ν (xs X 4 s 0 m) := ⟨wo_cm h.1 hm, wv_k h.2 (xs_nk (by decide)) (xs_nk (by decide))⟩
set_option maxHeartbeats 2000000 in
theorem wo_rs {X : XM} (h : WO X) {c m : Nat} {n : Int} (hn : 0 ≤ n ∧ n ≤ 12) : WO (xs X 13 c m n) := by
  have m1 : (xs X 13 c m n) 1 = X 1 := xs_nk (by decide)
  have m2 : (xs X 13 c m n) 2 = X 2 := xs_nk (by decide)
  have k0 : (xs X 13 c m n) 0 = X 0 := xs_nk (by decide)
  have k3 : (xs X 13 c m n) 3 = X 3 := xs_nk (by decide)
  have k4 : (xs X 13 c m n) 4 = X 4 := xs_nk (by decide)
  have k5 : (xs X 13 c m n) 5 = X 5 := xs_nk (by decide)
  have k6 : (xs X 13 c m n) 6 = X 6 := xs_nk (by decide)
  have k7 : (xs X 13 c m n) 7 = X 7 := xs_nk (by decide)
  have k8 : (xs X 13 c m n) 8 = X 8 := xs_nk (by decide)
  have k9 : (xs X 13 c m n) 9 = X 9 := xs_nk (by decide)
  have k11 : (xs X 13 c m n) 11 = X 11 := xs_nk (by decide)
  have k12 : (xs X 13 c m n) 12 = X 12 := xs_nk (by decide)
  have k14 : (xs X 13 c m n) 14 = X 14 := xs_nk (by decide)
  have k15 : (xs X 13 c m n) 15 = X 15 := xs_nk (by decide)
  have k16 : (xs X 13 c m n) 16 = X 16 := xs_nk (by decide)
  have l0 : (xs X 13 c m n) 1 0 2 = X 1 0 2 := by rw [xs_nk (by decide)]
  have l1 : (xs X 13 c m n) 1 1 2 = X 1 1 2 := by rw [xs_nk (by decide)]
  have l2 : (xs X 13 c m n) 1 2 2 = X 1 2 2 := by rw [xs_nk (by decide)]
  have l3 : (xs X 13 c m n) 1 3 2 = X 1 3 2 := by rw [xs_nk (by decide)]
  have kb : bsT (xs X 13 c m n) = bsT X := bsT_cg k6 k11
  refine ⟨?_, ?_, ?_, ?_, ?_, ?_, ?_, ?_, ?_, ?_, ?_, ?_, ?_, ?_, ?_, ?_, ?_, ?_, ?_, ?_, ?_, ?_, ?_, ?_, ?_, ?_, ?_, ?_, ?_, ?_, ?_, ?_, ?_, ?_, ?_, ?_, ?_, trivial⟩
  · -- nC
    simp only [nC, nS, nF, nR, k0, k3, k4, k5, k6, k7, k8, k9, k11, k12, k14, k15, k16, l0, l1, l2, l3, kb]; exact wo_nC h
  · -- nS
    simp only [nC, nS, nF, nR, k0, k3, k4, k5, k6, k7, k8, k9, k11, k12, k14, k15, k16, l0, l1, l2, l3, kb]; exact wo_nS h
  · -- nF
    simp only [nC, nS, nF, nR, k0, k3, k4, k5, k6, k7, k8, k9, k11, k12, k14, k15, k16, l0, l1, l2, l3, kb]; exact wo_nF h
  · -- nR
    simp only [nC, nS, nF, nR, k0, k3, k4, k5, k6, k7, k8, k9, k11, k12, k14, k15, k16, l0, l1, l2, l3, kb]; exact wo_nR h
  · -- day
    simp only [nC, nS, nF, nR, k0, k3, k4, k5, k6, k7, k8, k9, k11, k12, k14, k15, k16, l0, l1, l2, l3, kb]; exact wo_day h
  · -- term
    simp only [nC, nS, nF, nR, k0, k3, k4, k5, k6, k7, k8, k9, k11, k12, k14, k15, k16, l0, l1, l2, l3, kb]; exact wo_term h
  · -- crd
    simp only [nC, nS, nF, nR, k0, k3, k4, k5, k6, k7, k8, k9, k11, k12, k14, k15, k16, l0, l1, l2, l3, kb]; exact wo_crd h
  · -- sea
    simp only [nC, nS, nF, nR, k0, k3, k4, k5, k6, k7, k8, k9, k11, k12, k14, k15, k16, l0, l1, l2, l3, kb]; exact wo_sea h
  · -- req
    simp only [nC, nS, nF, nR, k0, k3, k4, k5, k6, k7, k8, k9, k11, k12, k14, k15, k16, l0, l1, l2, l3, kb]; exact wo_req h
  · -- res
    intro c2 m2 h2 h3; simp only [nC, l0] at h2; rw [xs_all]; split; (exact hn); (exact wo_res h c2 m2 h2 h3)
  · -- wN
    simp only [nC, nS, nF, nR, k0, k3, k4, k5, k6, k7, k8, k9, k11, k12, k14, k15, k16, l0, l1, l2, l3, kb]; exact wo_wN h
  · -- wA
    simp only [nC, nS, nF, nR, k0, k3, k4, k5, k6, k7, k8, k9, k11, k12, k14, k15, k16, l0, l1, l2, l3, kb]; exact wo_wA h
  · -- maj
    simp only [nC, nS, nF, nR, k0, k3, k4, k5, k6, k7, k8, k9, k11, k12, k14, k15, k16, l0, l1, l2, l3, kb]; exact wo_maj h
  · -- t01
    simp only [nC, nS, nF, nR, k0, k3, k4, k5, k6, k7, k8, k9, k11, k12, k14, k15, k16, l0, l1, l2, l3, kb]; exact wo_t01 h
  · -- m01
    simp only [nC, nS, nF, nR, k0, k3, k4, k5, k6, k7, k8, k9, k11, k12, k14, k15, k16, l0, l1, l2, l3, kb]; exact wo_m01 h
  · -- tm
    simp only [nC, nS, nF, nR, k0, k3, k4, k5, k6, k7, k8, k9, k11, k12, k14, k15, k16, l0, l1, l2, l3, kb]; exact wo_tm h
  · -- bst
    simp only [nC, nS, nF, nR, k0, k3, k4, k5, k6, k7, k8, k9, k11, k12, k14, k15, k16, l0, l1, l2, l3, kb]; exact wo_bst h
  · -- tri
    simp only [nC, nS, nF, nR, k0, k3, k4, k5, k6, k7, k8, k9, k11, k12, k14, k15, k16, l0, l1, l2, l3, kb]; exact wo_tri h
  · -- trd
    simp only [nC, nS, nF, nR, k0, k3, k4, k5, k6, k7, k8, k9, k11, k12, k14, k15, k16, l0, l1, l2, l3, kb]; exact wo_trd h
  · -- bsq
    simp only [nC, nS, nF, nR, k0, k3, k4, k5, k6, k7, k8, k9, k11, k12, k14, k15, k16, l0, l1, l2, l3, kb]; exact wo_bsq h
  · -- far
    simp only [nC, nS, nF, nR, k0, k3, k4, k5, k6, k7, k8, k9, k11, k12, k14, k15, k16, l0, l1, l2, l3, kb]; exact wo_far h
  · -- dep
    simp only [nC, nS, nF, nR, k0, k3, k4, k5, k6, k7, k8, k9, k11, k12, k14, k15, k16, l0, l1, l2, l3, kb]; exact wo_dep h
  · -- dp0
    simp only [nC, nS, nF, nR, k0, k3, k4, k5, k6, k7, k8, k9, k11, k12, k14, k15, k16, l0, l1, l2, l3, kb]; exact wo_dp0 h
  · -- fk
    simp only [nC, nS, nF, nR, k0, k3, k4, k5, k6, k7, k8, k9, k11, k12, k14, k15, k16, l0, l1, l2, l3, kb]; exact wo_fk h
  · -- f0
    simp only [nC, nS, nF, nR, k0, k3, k4, k5, k6, k7, k8, k9, k11, k12, k14, k15, k16, l0, l1, l2, l3, kb]; exact wo_f0 h
  · -- f1
    simp only [nC, nS, nF, nR, k0, k3, k4, k5, k6, k7, k8, k9, k11, k12, k14, k15, k16, l0, l1, l2, l3, kb]; exact wo_f1 h
  · -- f2
    simp only [nC, nS, nF, nR, k0, k3, k4, k5, k6, k7, k8, k9, k11, k12, k14, k15, k16, l0, l1, l2, l3, kb]; exact wo_f2 h
  · -- f3
    simp only [nC, nS, nF, nR, k0, k3, k4, k5, k6, k7, k8, k9, k11, k12, k14, k15, k16, l0, l1, l2, l3, kb]; exact wo_f3 h
  · -- f4
    simp only [nC, nS, nF, nR, k0, k3, k4, k5, k6, k7, k8, k9, k11, k12, k14, k15, k16, l0, l1, l2, l3, kb]; exact wo_f4 h
  · -- rul
    simp only [nC, nS, nF, nR, k0, k3, k4, k5, k6, k7, k8, k9, k11, k12, k14, k15, k16, l0, l1, l2, l3, kb]; exact wo_rul h
  · -- r01
    simp only [nC, nS, nF, nR, k0, k3, k4, k5, k6, k7, k8, k9, k11, k12, k14, k15, k16, l0, l1, l2, l3, kb]; exact wo_r01 h
  · -- rm4
    simp only [nC, nS, nF, nR, k0, k3, k4, k5, k6, k7, k8, k9, k11, k12, k14, k15, k16, l0, l1, l2, l3, kb]; exact wo_rm4 h
  · -- tk3
    simp only [nC, nS, nF, nR, k0, k3, k4, k5, k6, k7, k8, k9, k11, k12, k14, k15, k16, l0, l1, l2, l3, kb]; exact wo_tk3 h
  · -- w6
    simp only [nC, nS, nF, nR, k0, k3, k4, k5, k6, k7, k8, k9, k11, k12, k14, k15, k16, l0, l1, l2, l3, kb]; exact wo_w6 h
  · -- wt3
    simp only [nC, nS, nF, nR, k0, k3, k4, k5, k6, k7, k8, k9, k11, k12, k14, k15, k16, l0, l1, l2, l3, kb]; exact wo_wt3 h
  · -- deg
    simp only [nC, nS, nF, nR, k0, k3, k4, k5, k6, k7, k8, k9, k11, k12, k14, k15, k16, l0, l1, l2, l3, kb]; exact wo_deg h
  · -- f7
    simp only [nC, nS, nF, nR, k0, k3, k4, k5, k6, k7, k8, k9, k11, k12, k14, k15, k16, l0, l1, l2, l3, kb]; exact wo_f7 h
theorem wx_rs {ν : Nat → Nat → Bool} {X : XM} (h : WX ν X) {c m : Nat} {n : Int} (hn : 0 ≤ n ∧ n ≤ 12) : WX ν (xs X 13 c m n) := ⟨wo_rs h.1 hn, wv_k h.2 (xs_nk (by decide)) (xs_nk (by decide))⟩
set_option maxHeartbeats 2000000 in
theorem wo_rq {X : XM} (h : WO X) {c : Nat} {f : Int} (hf : -1 ≤ f ∧ f < nF X) : WO (xs X 12 c 5 f) := by
  have m1 : (xs X 12 c 5 f) 1 = X 1 := xs_nk (by decide)
  have m2 : (xs X 12 c 5 f) 2 = X 2 := xs_nk (by decide)
  have k0 : (xs X 12 c 5 f) 0 = X 0 := xs_nk (by decide)
  have k3 : (xs X 12 c 5 f) 3 = X 3 := xs_nk (by decide)
  have k4 : (xs X 12 c 5 f) 4 = X 4 := xs_nk (by decide)
  have k5 : (xs X 12 c 5 f) 5 = X 5 := xs_nk (by decide)
  have k6 : (xs X 12 c 5 f) 6 = X 6 := xs_nk (by decide)
  have k7 : (xs X 12 c 5 f) 7 = X 7 := xs_nk (by decide)
  have k8 : (xs X 12 c 5 f) 8 = X 8 := xs_nk (by decide)
  have k9 : (xs X 12 c 5 f) 9 = X 9 := xs_nk (by decide)
  have k11 : (xs X 12 c 5 f) 11 = X 11 := xs_nk (by decide)
  have k13 : (xs X 12 c 5 f) 13 = X 13 := xs_nk (by decide)
  have k14 : (xs X 12 c 5 f) 14 = X 14 := xs_nk (by decide)
  have k15 : (xs X 12 c 5 f) 15 = X 15 := xs_nk (by decide)
  have k16 : (xs X 12 c 5 f) 16 = X 16 := xs_nk (by decide)
  have l0 : (xs X 12 c 5 f) 1 0 2 = X 1 0 2 := by rw [xs_nk (by decide)]
  have l1 : (xs X 12 c 5 f) 1 1 2 = X 1 1 2 := by rw [xs_nk (by decide)]
  have l2 : (xs X 12 c 5 f) 1 2 2 = X 1 2 2 := by rw [xs_nk (by decide)]
  have l3 : (xs X 12 c 5 f) 1 3 2 = X 1 3 2 := by rw [xs_nk (by decide)]
  have kb : bsT (xs X 12 c 5 f) = bsT X := bsT_cg k6 k11
  refine ⟨?_, ?_, ?_, ?_, ?_, ?_, ?_, ?_, ?_, ?_, ?_, ?_, ?_, ?_, ?_, ?_, ?_, ?_, ?_, ?_, ?_, ?_, ?_, ?_, ?_, ?_, ?_, ?_, ?_, ?_, ?_, ?_, ?_, ?_, ?_, ?_, ?_, trivial⟩
  · -- nC
    simp only [nC, nS, nF, nR, k0, k3, k4, k5, k6, k7, k8, k9, k11, k13, k14, k15, k16, l0, l1, l2, l3, kb]; exact wo_nC h
  · -- nS
    simp only [nC, nS, nF, nR, k0, k3, k4, k5, k6, k7, k8, k9, k11, k13, k14, k15, k16, l0, l1, l2, l3, kb]; exact wo_nS h
  · -- nF
    simp only [nC, nS, nF, nR, k0, k3, k4, k5, k6, k7, k8, k9, k11, k13, k14, k15, k16, l0, l1, l2, l3, kb]; exact wo_nF h
  · -- nR
    simp only [nC, nS, nF, nR, k0, k3, k4, k5, k6, k7, k8, k9, k11, k13, k14, k15, k16, l0, l1, l2, l3, kb]; exact wo_nR h
  · -- day
    simp only [nC, nS, nF, nR, k0, k3, k4, k5, k6, k7, k8, k9, k11, k13, k14, k15, k16, l0, l1, l2, l3, kb]; exact wo_day h
  · -- term
    simp only [nC, nS, nF, nR, k0, k3, k4, k5, k6, k7, k8, k9, k11, k13, k14, k15, k16, l0, l1, l2, l3, kb]; exact wo_term h
  · -- crd
    intro c2 h2; simp only [nC, l0] at h2; rw [xs_all, if_neg (by omega)]; exact wo_crd h c2 h2
  · -- sea
    intro c2 h2; simp only [nC, l0] at h2; rw [xs_all, if_neg (by omega)]; exact wo_sea h c2 h2
  · -- req
    intro c2 h2; simp only [nC, nF, l0, l2] at *; rw [xs_all]; split; (exact hf); (exact wo_req h c2 h2)
  · -- res
    simp only [nC, nS, nF, nR, k0, k3, k4, k5, k6, k7, k8, k9, k11, k13, k14, k15, k16, l0, l1, l2, l3, kb]; exact wo_res h
  · -- wN
    simp only [nC, nS, nF, nR, k0, k3, k4, k5, k6, k7, k8, k9, k11, k13, k14, k15, k16, l0, l1, l2, l3, kb]; exact wo_wN h
  · -- wA
    simp only [nC, nS, nF, nR, k0, k3, k4, k5, k6, k7, k8, k9, k11, k13, k14, k15, k16, l0, l1, l2, l3, kb]; exact wo_wA h
  · -- maj
    simp only [nC, nS, nF, nR, k0, k3, k4, k5, k6, k7, k8, k9, k11, k13, k14, k15, k16, l0, l1, l2, l3, kb]; exact wo_maj h
  · -- t01
    simp only [nC, nS, nF, nR, k0, k3, k4, k5, k6, k7, k8, k9, k11, k13, k14, k15, k16, l0, l1, l2, l3, kb]; exact wo_t01 h
  · -- m01
    simp only [nC, nS, nF, nR, k0, k3, k4, k5, k6, k7, k8, k9, k11, k13, k14, k15, k16, l0, l1, l2, l3, kb]; exact wo_m01 h
  · -- tm
    simp only [nC, nS, nF, nR, k0, k3, k4, k5, k6, k7, k8, k9, k11, k13, k14, k15, k16, l0, l1, l2, l3, kb]; exact wo_tm h
  · -- bst
    simp only [nC, nS, nF, nR, k0, k3, k4, k5, k6, k7, k8, k9, k11, k13, k14, k15, k16, l0, l1, l2, l3, kb]; exact wo_bst h
  · -- tri
    simp only [nC, nS, nF, nR, k0, k3, k4, k5, k6, k7, k8, k9, k11, k13, k14, k15, k16, l0, l1, l2, l3, kb]; exact wo_tri h
  · -- trd
    simp only [nC, nS, nF, nR, k0, k3, k4, k5, k6, k7, k8, k9, k11, k13, k14, k15, k16, l0, l1, l2, l3, kb]; exact wo_trd h
  · -- bsq
    simp only [nC, nS, nF, nR, k0, k3, k4, k5, k6, k7, k8, k9, k11, k13, k14, k15, k16, l0, l1, l2, l3, kb]; exact wo_bsq h
  · -- far
    simp only [nC, nS, nF, nR, k0, k3, k4, k5, k6, k7, k8, k9, k11, k13, k14, k15, k16, l0, l1, l2, l3, kb]; exact wo_far h
  · -- dep
    simp only [nC, nS, nF, nR, k0, k3, k4, k5, k6, k7, k8, k9, k11, k13, k14, k15, k16, l0, l1, l2, l3, kb]; exact wo_dep h
  · -- dp0
    simp only [nC, nS, nF, nR, k0, k3, k4, k5, k6, k7, k8, k9, k11, k13, k14, k15, k16, l0, l1, l2, l3, kb]; exact wo_dp0 h
  · -- fk
    simp only [nC, nS, nF, nR, k0, k3, k4, k5, k6, k7, k8, k9, k11, k13, k14, k15, k16, l0, l1, l2, l3, kb]; exact wo_fk h
  · -- f0
    simp only [nC, nS, nF, nR, k0, k3, k4, k5, k6, k7, k8, k9, k11, k13, k14, k15, k16, l0, l1, l2, l3, kb]; exact wo_f0 h
  · -- f1
    simp only [nC, nS, nF, nR, k0, k3, k4, k5, k6, k7, k8, k9, k11, k13, k14, k15, k16, l0, l1, l2, l3, kb]; exact wo_f1 h
  · -- f2
    simp only [nC, nS, nF, nR, k0, k3, k4, k5, k6, k7, k8, k9, k11, k13, k14, k15, k16, l0, l1, l2, l3, kb]; exact wo_f2 h
  · -- f3
    simp only [nC, nS, nF, nR, k0, k3, k4, k5, k6, k7, k8, k9, k11, k13, k14, k15, k16, l0, l1, l2, l3, kb]; exact wo_f3 h
  · -- f4
    simp only [nC, nS, nF, nR, k0, k3, k4, k5, k6, k7, k8, k9, k11, k13, k14, k15, k16, l0, l1, l2, l3, kb]; exact wo_f4 h
  · -- rul
    simp only [nC, nS, nF, nR, k0, k3, k4, k5, k6, k7, k8, k9, k11, k13, k14, k15, k16, l0, l1, l2, l3, kb]; exact wo_rul h
  · -- r01
    simp only [nC, nS, nF, nR, k0, k3, k4, k5, k6, k7, k8, k9, k11, k13, k14, k15, k16, l0, l1, l2, l3, kb]; exact wo_r01 h
  · -- rm4
    simp only [nC, nS, nF, nR, k0, k3, k4, k5, k6, k7, k8, k9, k11, k13, k14, k15, k16, l0, l1, l2, l3, kb]; exact wo_rm4 h
  · -- tk3
    simp only [nC, nS, nF, nR, k0, k3, k4, k5, k6, k7, k8, k9, k11, k13, k14, k15, k16, l0, l1, l2, l3, kb]; exact wo_tk3 h
  · -- w6
    simp only [nC, nS, nF, nR, k0, k3, k4, k5, k6, k7, k8, k9, k11, k13, k14, k15, k16, l0, l1, l2, l3, kb]; exact wo_w6 h
  · -- wt3
    simp only [nC, nS, nF, nR, k0, k3, k4, k5, k6, k7, k8, k9, k11, k13, k14, k15, k16, l0, l1, l2, l3, kb]; exact wo_wt3 h
  · -- deg
    simp only [nC, nS, nF, nR, k0, k3, k4, k5, k6, k7, k8, k9, k11, k13, k14, k15, k16, l0, l1, l2, l3, kb]; exact wo_deg h
  · -- f7
    simp only [nC, nS, nF, nR, k0, k3, k4, k5, k6, k7, k8, k9, k11, k13, k14, k15, k16, l0, l1, l2, l3, kb]; exact wo_f7 h
theorem wx_rq {ν : Nat → Nat → Bool} {X : XM} (h : WX ν X) {c : Nat} {f : Int} (hf : -1 ≤ f ∧ f < nF X) : WX ν (xs X 12 c 5 f) := ⟨wo_rq h.1 hf, wv_k h.2 (xs_nk (by decide)) (xs_nk (by decide))⟩
set_option maxHeartbeats 2000000 in
theorem wo_mk {X : XM} (h : WO X) {s c : Nat} {m : Int} (hc : (c : Int) < nC X) (hm : -1 ≤ m ∧ m ≤ 100) : WO (xs X 7 s c m) := by
  have m1 : (xs X 7 s c m) 1 = X 1 := xs_nk (by decide)
  have m2 : (xs X 7 s c m) 2 = X 2 := xs_nk (by decide)
  have k0 : (xs X 7 s c m) 0 = X 0 := xs_nk (by decide)
  have k3 : (xs X 7 s c m) 3 = X 3 := xs_nk (by decide)
  have k4 : (xs X 7 s c m) 4 = X 4 := xs_nk (by decide)
  have k5 : (xs X 7 s c m) 5 = X 5 := xs_nk (by decide)
  have k6 : (xs X 7 s c m) 6 = X 6 := xs_nk (by decide)
  have k8 : (xs X 7 s c m) 8 = X 8 := xs_nk (by decide)
  have k9 : (xs X 7 s c m) 9 = X 9 := xs_nk (by decide)
  have k11 : (xs X 7 s c m) 11 = X 11 := xs_nk (by decide)
  have k12 : (xs X 7 s c m) 12 = X 12 := xs_nk (by decide)
  have k13 : (xs X 7 s c m) 13 = X 13 := xs_nk (by decide)
  have k14 : (xs X 7 s c m) 14 = X 14 := xs_nk (by decide)
  have k15 : (xs X 7 s c m) 15 = X 15 := xs_nk (by decide)
  have k16 : (xs X 7 s c m) 16 = X 16 := xs_nk (by decide)
  have l0 : (xs X 7 s c m) 1 0 2 = X 1 0 2 := by rw [xs_nk (by decide)]
  have l1 : (xs X 7 s c m) 1 1 2 = X 1 1 2 := by rw [xs_nk (by decide)]
  have l2 : (xs X 7 s c m) 1 2 2 = X 1 2 2 := by rw [xs_nk (by decide)]
  have l3 : (xs X 7 s c m) 1 3 2 = X 1 3 2 := by rw [xs_nk (by decide)]
  have kb : bsT (xs X 7 s c m) = bsT X := bsT_cg k6 k11
  refine ⟨?_, ?_, ?_, ?_, ?_, ?_, ?_, ?_, ?_, ?_, ?_, ?_, ?_, ?_, ?_, ?_, ?_, ?_, ?_, ?_, ?_, ?_, ?_, ?_, ?_, ?_, ?_, ?_, ?_, ?_, ?_, ?_, ?_, ?_, ?_, ?_, ?_, trivial⟩
  · -- nC
    simp only [nC, nS, nF, nR, k0, k3, k4, k5, k6, k8, k9, k11, k12, k13, k14, k15, k16, l0, l1, l2, l3, kb]; exact wo_nC h
  · -- nS
    simp only [nC, nS, nF, nR, k0, k3, k4, k5, k6, k8, k9, k11, k12, k13, k14, k15, k16, l0, l1, l2, l3, kb]; exact wo_nS h
  · -- nF
    simp only [nC, nS, nF, nR, k0, k3, k4, k5, k6, k8, k9, k11, k12, k13, k14, k15, k16, l0, l1, l2, l3, kb]; exact wo_nF h
  · -- nR
    simp only [nC, nS, nF, nR, k0, k3, k4, k5, k6, k8, k9, k11, k12, k13, k14, k15, k16, l0, l1, l2, l3, kb]; exact wo_nR h
  · -- day
    simp only [nC, nS, nF, nR, k0, k3, k4, k5, k6, k8, k9, k11, k12, k13, k14, k15, k16, l0, l1, l2, l3, kb]; exact wo_day h
  · -- term
    simp only [nC, nS, nF, nR, k0, k3, k4, k5, k6, k8, k9, k11, k12, k13, k14, k15, k16, l0, l1, l2, l3, kb]; exact wo_term h
  · -- crd
    simp only [nC, nS, nF, nR, k0, k3, k4, k5, k6, k8, k9, k11, k12, k13, k14, k15, k16, l0, l1, l2, l3, kb]; exact wo_crd h
  · -- sea
    simp only [nC, nS, nF, nR, k0, k3, k4, k5, k6, k8, k9, k11, k12, k13, k14, k15, k16, l0, l1, l2, l3, kb]; exact wo_sea h
  · -- req
    simp only [nC, nS, nF, nR, k0, k3, k4, k5, k6, k8, k9, k11, k12, k13, k14, k15, k16, l0, l1, l2, l3, kb]; exact wo_req h
  · -- res
    simp only [nC, nS, nF, nR, k0, k3, k4, k5, k6, k8, k9, k11, k12, k13, k14, k15, k16, l0, l1, l2, l3, kb]; exact wo_res h
  · -- wN
    simp only [nC, nS, nF, nR, k0, k3, k4, k5, k6, k8, k9, k11, k12, k13, k14, k15, k16, l0, l1, l2, l3, kb]; exact wo_wN h
  · -- wA
    simp only [nC, nS, nF, nR, k0, k3, k4, k5, k6, k8, k9, k11, k12, k13, k14, k15, k16, l0, l1, l2, l3, kb]; exact wo_wA h
  · -- maj
    simp only [nC, nS, nF, nR, k0, k3, k4, k5, k6, k8, k9, k11, k12, k13, k14, k15, k16, l0, l1, l2, l3, kb]; exact wo_maj h
  · -- t01
    simp only [nC, nS, nF, nR, k0, k3, k4, k5, k6, k8, k9, k11, k12, k13, k14, k15, k16, l0, l1, l2, l3, kb]; exact wo_t01 h
  · -- m01
    simp only [nC, nS, nF, nR, k0, k3, k4, k5, k6, k8, k9, k11, k12, k13, k14, k15, k16, l0, l1, l2, l3, kb]; exact wo_m01 h
  · -- tm
    intro s2 c2 h2 h3; simp only [nS, l1] at h2; rw [xs_all]; split; (exact hm); (exact wo_tm h s2 c2 h2 h3)
  · -- bst
    simp only [nC, nS, nF, nR, k0, k3, k4, k5, k6, k8, k9, k11, k12, k13, k14, k15, k16, l0, l1, l2, l3, kb]; exact wo_bst h
  · -- tri
    simp only [nC, nS, nF, nR, k0, k3, k4, k5, k6, k8, k9, k11, k12, k13, k14, k15, k16, l0, l1, l2, l3, kb]; exact wo_tri h
  · -- trd
    simp only [nC, nS, nF, nR, k0, k3, k4, k5, k6, k8, k9, k11, k12, k13, k14, k15, k16, l0, l1, l2, l3, kb]; exact wo_trd h
  · -- bsq
    simp only [nC, nS, nF, nR, k0, k3, k4, k5, k6, k8, k9, k11, k12, k13, k14, k15, k16, l0, l1, l2, l3, kb]; exact wo_bsq h
  · -- far
    simp only [nC, nS, nF, nR, k0, k3, k4, k5, k6, k8, k9, k11, k12, k13, k14, k15, k16, l0, l1, l2, l3, kb]; exact wo_far h
  · -- dep
    simp only [nC, nS, nF, nR, k0, k3, k4, k5, k6, k8, k9, k11, k12, k13, k14, k15, k16, l0, l1, l2, l3, kb]; exact wo_dep h
  · -- dp0
    simp only [nC, nS, nF, nR, k0, k3, k4, k5, k6, k8, k9, k11, k12, k13, k14, k15, k16, l0, l1, l2, l3, kb]; exact wo_dp0 h
  · -- fk
    simp only [nC, nS, nF, nR, k0, k3, k4, k5, k6, k8, k9, k11, k12, k13, k14, k15, k16, l0, l1, l2, l3, kb]; exact wo_fk h
  · -- f0
    simp only [nC, nS, nF, nR, k0, k3, k4, k5, k6, k8, k9, k11, k12, k13, k14, k15, k16, l0, l1, l2, l3, kb]; exact wo_f0 h
  · -- f1
    simp only [nC, nS, nF, nR, k0, k3, k4, k5, k6, k8, k9, k11, k12, k13, k14, k15, k16, l0, l1, l2, l3, kb]; exact wo_f1 h
  · -- f2
    simp only [nC, nS, nF, nR, k0, k3, k4, k5, k6, k8, k9, k11, k12, k13, k14, k15, k16, l0, l1, l2, l3, kb]; exact wo_f2 h
  · -- f3
    simp only [nC, nS, nF, nR, k0, k3, k4, k5, k6, k8, k9, k11, k12, k13, k14, k15, k16, l0, l1, l2, l3, kb]; exact wo_f3 h
  · -- f4
    simp only [nC, nS, nF, nR, k0, k3, k4, k5, k6, k8, k9, k11, k12, k13, k14, k15, k16, l0, l1, l2, l3, kb]; exact wo_f4 h
  · -- rul
    simp only [nC, nS, nF, nR, k0, k3, k4, k5, k6, k8, k9, k11, k12, k13, k14, k15, k16, l0, l1, l2, l3, kb]; exact wo_rul h
  · -- r01
    simp only [nC, nS, nF, nR, k0, k3, k4, k5, k6, k8, k9, k11, k12, k13, k14, k15, k16, l0, l1, l2, l3, kb]; exact wo_r01 h
  · -- rm4
    simp only [nC, nS, nF, nR, k0, k3, k4, k5, k6, k8, k9, k11, k12, k13, k14, k15, k16, l0, l1, l2, l3, kb]; exact wo_rm4 h
  · -- tk3
    simp only [nC, nS, nF, nR, k0, k3, k4, k5, k6, k8, k9, k11, k12, k13, k14, k15, k16, l0, l1, l2, l3, kb]; exact wo_tk3 h
  · -- w6
    simp only [nC, nS, nF, nR, k0, k3, k4, k5, k6, k8, k9, k11, k12, k13, k14, k15, k16, l0, l1, l2, l3, kb]; exact wo_w6 h
  · -- wt3
    simp only [nC, nS, nF, nR, k0, k3, k4, k5, k6, k8, k9, k11, k12, k13, k14, k15, k16, l0, l1, l2, l3, kb]; exact wo_wt3 h
  · -- deg
    simp only [nC, nS, nF, nR, k0, k3, k4, k5, k6, k8, k9, k11, k12, k13, k14, k15, k16, l0, l1, l2, l3, kb]; exact wo_deg h
  · -- f7
    intro s2 c2 h2 h3 h4; simp only [nC, nS, l0, l1] at h2 h3; have hc2 : (c : Int) < X 1 0 2 := hc; rw [xs_all, if_neg (by omega)]; exact wo_f7 h s2 c2 h2 h3 h4
theorem wx_mk {ν : Nat → Nat → Bool} {X : XM} (h : WX ν X) {s c : Nat} {m : Int} (hc : (c : Int) < nC X) (hm : -1 ≤ m ∧ m ≤ 100) : WX ν (xs X 7 s c m) := ⟨wo_mk h.1 hc hm, wv_k h.2 (xs_nk (by decide)) (xs_nk (by decide))⟩
set_option maxHeartbeats 2000000 in
theorem wo_dy {X : XM} (h : WO X) {d : Int} (hd : 0 ≤ d ∧ d ≤ 30) (h6 : 5 < d → ∀ c : Nat, (c : Int) < nC X → X 1 (4 + c) 2 = 0) : WO (xs X 0 0 5 d) := by
  have m1 : (xs X 0 0 5 d) 1 = X 1 := xs_nk (by decide)
  have m2 : (xs X 0 0 5 d) 2 = X 2 := xs_nk (by decide)
  have k3 : (xs X 0 0 5 d) 3 = X 3 := xs_nk (by decide)
  have k4 : (xs X 0 0 5 d) 4 = X 4 := xs_nk (by decide)
  have k5 : (xs X 0 0 5 d) 5 = X 5 := xs_nk (by decide)
  have k6 : (xs X 0 0 5 d) 6 = X 6 := xs_nk (by decide)
  have k7 : (xs X 0 0 5 d) 7 = X 7 := xs_nk (by decide)
  have k8 : (xs X 0 0 5 d) 8 = X 8 := xs_nk (by decide)
  have k9 : (xs X 0 0 5 d) 9 = X 9 := xs_nk (by decide)
  have k11 : (xs X 0 0 5 d) 11 = X 11 := xs_nk (by decide)
  have k12 : (xs X 0 0 5 d) 12 = X 12 := xs_nk (by decide)
  have k13 : (xs X 0 0 5 d) 13 = X 13 := xs_nk (by decide)
  have k14 : (xs X 0 0 5 d) 14 = X 14 := xs_nk (by decide)
  have k15 : (xs X 0 0 5 d) 15 = X 15 := xs_nk (by decide)
  have k16 : (xs X 0 0 5 d) 16 = X 16 := xs_nk (by decide)
  have l0 : (xs X 0 0 5 d) 1 0 2 = X 1 0 2 := by rw [xs_nk (by decide)]
  have l1 : (xs X 0 0 5 d) 1 1 2 = X 1 1 2 := by rw [xs_nk (by decide)]
  have l2 : (xs X 0 0 5 d) 1 2 2 = X 1 2 2 := by rw [xs_nk (by decide)]
  have l3 : (xs X 0 0 5 d) 1 3 2 = X 1 3 2 := by rw [xs_nk (by decide)]
  have kb : bsT (xs X 0 0 5 d) = bsT X := bsT_cg k6 k11
  refine ⟨?_, ?_, ?_, ?_, ?_, ?_, ?_, ?_, ?_, ?_, ?_, ?_, ?_, ?_, ?_, ?_, ?_, ?_, ?_, ?_, ?_, ?_, ?_, ?_, ?_, ?_, ?_, ?_, ?_, ?_, ?_, ?_, ?_, ?_, ?_, ?_, ?_, trivial⟩
  · -- nC
    simp only [nC, nS, nF, nR, k3, k4, k5, k6, k7, k8, k9, k11, k12, k13, k14, k15, k16, l0, l1, l2, l3, kb]; exact wo_nC h
  · -- nS
    simp only [nC, nS, nF, nR, k3, k4, k5, k6, k7, k8, k9, k11, k12, k13, k14, k15, k16, l0, l1, l2, l3, kb]; exact wo_nS h
  · -- nF
    simp only [nC, nS, nF, nR, k3, k4, k5, k6, k7, k8, k9, k11, k12, k13, k14, k15, k16, l0, l1, l2, l3, kb]; exact wo_nF h
  · -- nR
    simp only [nC, nS, nF, nR, k3, k4, k5, k6, k7, k8, k9, k11, k12, k13, k14, k15, k16, l0, l1, l2, l3, kb]; exact wo_nR h
  · -- day
    rw [xs_at, if_pos rfl]; exact hd
  · -- term
    rw [xs_at, if_neg (by decide)]; exact wo_term h
  · -- crd
    simp only [nC, nS, nF, nR, k3, k4, k5, k6, k7, k8, k9, k11, k12, k13, k14, k15, k16, l0, l1, l2, l3, kb]; exact wo_crd h
  · -- sea
    simp only [nC, nS, nF, nR, k3, k4, k5, k6, k7, k8, k9, k11, k12, k13, k14, k15, k16, l0, l1, l2, l3, kb]; exact wo_sea h
  · -- req
    simp only [nC, nS, nF, nR, k3, k4, k5, k6, k7, k8, k9, k11, k12, k13, k14, k15, k16, l0, l1, l2, l3, kb]; exact wo_req h
  · -- res
    simp only [nC, nS, nF, nR, k3, k4, k5, k6, k7, k8, k9, k11, k12, k13, k14, k15, k16, l0, l1, l2, l3, kb]; exact wo_res h
  · -- wN
    simp only [nC, nS, nF, nR, k3, k4, k5, k6, k7, k8, k9, k11, k12, k13, k14, k15, k16, l0, l1, l2, l3, kb]; exact wo_wN h
  · -- wA
    simp only [nC, nS, nF, nR, k3, k4, k5, k6, k7, k8, k9, k11, k12, k13, k14, k15, k16, l0, l1, l2, l3, kb]; exact wo_wA h
  · -- maj
    simp only [nC, nS, nF, nR, k3, k4, k5, k6, k7, k8, k9, k11, k12, k13, k14, k15, k16, l0, l1, l2, l3, kb]; exact wo_maj h
  · -- t01
    simp only [nC, nS, nF, nR, k3, k4, k5, k6, k7, k8, k9, k11, k12, k13, k14, k15, k16, l0, l1, l2, l3, kb]; exact wo_t01 h
  · -- m01
    simp only [nC, nS, nF, nR, k3, k4, k5, k6, k7, k8, k9, k11, k12, k13, k14, k15, k16, l0, l1, l2, l3, kb]; exact wo_m01 h
  · -- tm
    simp only [nC, nS, nF, nR, k3, k4, k5, k6, k7, k8, k9, k11, k12, k13, k14, k15, k16, l0, l1, l2, l3, kb]; exact wo_tm h
  · -- bst
    simp only [nC, nS, nF, nR, k3, k4, k5, k6, k7, k8, k9, k11, k12, k13, k14, k15, k16, l0, l1, l2, l3, kb]; exact wo_bst h
  · -- tri
    simp only [nC, nS, nF, nR, k3, k4, k5, k6, k7, k8, k9, k11, k12, k13, k14, k15, k16, l0, l1, l2, l3, kb]; exact wo_tri h
  · -- trd
    simp only [nC, nS, nF, nR, k3, k4, k5, k6, k7, k8, k9, k11, k12, k13, k14, k15, k16, l0, l1, l2, l3, kb]; exact wo_trd h
  · -- bsq
    simp only [nC, nS, nF, nR, k3, k4, k5, k6, k7, k8, k9, k11, k12, k13, k14, k15, k16, l0, l1, l2, l3, kb]; exact wo_bsq h
  · -- far
    simp only [nC, nS, nF, nR, k3, k4, k5, k6, k7, k8, k9, k11, k12, k13, k14, k15, k16, l0, l1, l2, l3, kb]; exact wo_far h
  · -- dep
    simp only [nC, nS, nF, nR, k3, k4, k5, k6, k7, k8, k9, k11, k12, k13, k14, k15, k16, l0, l1, l2, l3, kb]; exact wo_dep h
  · -- dp0
    simp only [nC, nS, nF, nR, k3, k4, k5, k6, k7, k8, k9, k11, k12, k13, k14, k15, k16, l0, l1, l2, l3, kb]; exact wo_dp0 h
  · -- fk
    simp only [nC, nS, nF, nR, k3, k4, k5, k6, k7, k8, k9, k11, k12, k13, k14, k15, k16, l0, l1, l2, l3, kb]; exact wo_fk h
  · -- f0
    simp only [nC, nS, nF, nR, k3, k4, k5, k6, k7, k8, k9, k11, k12, k13, k14, k15, k16, l0, l1, l2, l3, kb]; exact wo_f0 h
  · -- f1
    simp only [nC, nS, nF, nR, k3, k4, k5, k6, k7, k8, k9, k11, k12, k13, k14, k15, k16, l0, l1, l2, l3, kb]; exact wo_f1 h
  · -- f2
    simp only [nC, nS, nF, nR, k3, k4, k5, k6, k7, k8, k9, k11, k12, k13, k14, k15, k16, l0, l1, l2, l3, kb]; exact wo_f2 h
  · -- f3
    simp only [nC, nS, nF, nR, k3, k4, k5, k6, k7, k8, k9, k11, k12, k13, k14, k15, k16, l0, l1, l2, l3, kb]; exact wo_f3 h
  · -- f4
    simp only [nC, nS, nF, nR, k3, k4, k5, k6, k7, k8, k9, k11, k12, k13, k14, k15, k16, l0, l1, l2, l3, kb]; exact wo_f4 h
  · -- rul
    simp only [nC, nS, nF, nR, k3, k4, k5, k6, k7, k8, k9, k11, k12, k13, k14, k15, k16, l0, l1, l2, l3, kb]; exact wo_rul h
  · -- r01
    simp only [nC, nS, nF, nR, k3, k4, k5, k6, k7, k8, k9, k11, k12, k13, k14, k15, k16, l0, l1, l2, l3, kb]; exact wo_r01 h
  · -- rm4
    simp only [nC, nS, nF, nR, k3, k4, k5, k6, k7, k8, k9, k11, k12, k13, k14, k15, k16, l0, l1, l2, l3, kb]; exact wo_rm4 h
  · -- tk3
    simp only [nC, nS, nF, nR, k3, k4, k5, k6, k7, k8, k9, k11, k12, k13, k14, k15, k16, l0, l1, l2, l3, kb]; exact wo_tk3 h
  · -- w6
    intro c h2 h3; simp only [nC, l0] at h2; rw [xs_at, if_pos rfl] at h3; rw [m1]; exact h6 h3 c h2
  · -- wt3
    simp only [nC, nS, nF, nR, k3, k4, k5, k6, k7, k8, k9, k11, k12, k13, k14, k15, k16, l0, l1, l2, l3, kb]; exact wo_wt3 h
  · -- deg
    simp only [nC, nS, nF, nR, k3, k4, k5, k6, k7, k8, k9, k11, k12, k13, k14, k15, k16, l0, l1, l2, l3, kb]; exact wo_deg h
  · -- f7
    simp only [nC, nS, nF, nR, k3, k4, k5, k6, k7, k8, k9, k11, k12, k13, k14, k15, k16, l0, l1, l2, l3, kb]; exact wo_f7 h
theorem wx_dy {ν : Nat → Nat → Bool} {X : XM} (h : WX ν X) {d : Int} (hd : 0 ≤ d ∧ d ≤ 30) (h6 : 5 < d → ∀ c : Nat, (c : Int) < nC X → X 1 (4 + c) 2 = 0) : WX ν (xs X 0 0 5 d) := ⟨wo_dy h.1 hd h6, wv_k h.2 (xs_nk (by decide)) (xs_nk (by decide))⟩
