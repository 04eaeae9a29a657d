/-! THE REFERENCE: the end of a term -/
set_option maxHeartbeats 2000000 in
theorem rm_z5 {O X X' : XM} (h : RM O X) {s : Nat} (hs : (s : Int) < nS O) (hx : ∀ k, 40 ≤ k → k ≤ 68 → k ≠ 52 → X' k = X k) (h52 : ∀ j, X' 52 0 j = if j = s then 0 else X 52 0 j) : RM (z5 O s 20) X' := by
  have k0 : (z5 O s 20) 0 = O 0 := z5_k (by decide)
  have k3 : (z5 O s 20) 3 = O 3 := z5_k (by decide)
  have k4 : (z5 O s 20) 4 = O 4 := z5_k (by decide)
  have k6 : (z5 O s 20) 6 = O 6 := z5_k (by decide)
  have k7 : (z5 O s 20) 7 = O 7 := z5_k (by decide)
  have k8 : (z5 O s 20) 8 = O 8 := z5_k (by decide)
  have k9 : (z5 O s 20) 9 = O 9 := z5_k (by decide)
  have k11 : (z5 O s 20) 11 = O 11 := z5_k (by decide)
  have k12 : (z5 O s 20) 12 = O 12 := z5_k (by decide)
  have k13 : (z5 O s 20) 13 = O 13 := z5_k (by decide)
  have k14 : (z5 O s 20) 14 = O 14 := z5_k (by decide)
  have k15 : (z5 O s 20) 15 = O 15 := z5_k (by decide)
  have k16 : (z5 O s 20) 16 = O 16 := z5_k (by decide)
  have l0 : (z5 O s 20) 1 0 2 = O 1 0 2 := by rw [z5_k (by decide)]
  have l1 : (z5 O s 20) 1 1 2 = O 1 1 2 := by rw [z5_k (by decide)]
  have l2 : (z5 O s 20) 1 2 2 = O 1 2 2 := by rw [z5_k (by decide)]
  have l3 : (z5 O s 20) 1 3 2 = O 1 3 2 := by rw [z5_k (by decide)]
  have lk1 : (z5 O s 20) 1 = O 1 := z5_k (by decide)
  have lk2 : (z5 O s 20) 2 = O 2 := z5_k (by decide)
  have nCe : nC (z5 O s 20) = nC O := l0
  have nSe : nS (z5 O s 20) = nS O := l1
  have nFe : nF (z5 O s 20) = nF O := l2
  have nRe : nR (z5 O s 20) = nR O := l3
  have x44 : X' 44 = X 44 := hx 44 (by decide) (by decide) (by decide)
  have x45 : X' 45 = X 45 := hx 45 (by decide) (by decide) (by decide)
  have x46 : X' 46 = X 46 := hx 46 (by decide) (by decide) (by decide)
  have x47 : X' 47 = X 47 := hx 47 (by decide) (by decide) (by decide)
  have x48 : X' 48 = X 48 := hx 48 (by decide) (by decide) (by decide)
  have x49 : X' 49 = X 49 := hx 49 (by decide) (by decide) (by decide)
  have x51 : X' 51 = X 51 := hx 51 (by decide) (by decide) (by decide)
  have x53 : X' 53 = X 53 := hx 53 (by decide) (by decide) (by decide)
  have x54 : X' 54 = X 54 := hx 54 (by decide) (by decide) (by decide)
  have x55 : X' 55 = X 55 := hx 55 (by decide) (by decide) (by decide)
  have x56 : X' 56 = X 56 := hx 56 (by decide) (by decide) (by decide)
  have x58 : X' 58 = X 58 := hx 58 (by decide) (by decide) (by decide)
  have x59 : X' 59 = X 59 := hx 59 (by decide) (by decide) (by decide)
  have x60 : X' 60 = X 60 := hx 60 (by decide) (by decide) (by decide)
  have x61 : X' 61 = X 61 := hx 61 (by decide) (by decide) (by decide)
  have x62 : X' 62 = X 62 := hx 62 (by decide) (by decide) (by decide)
  have x64 : X' 64 = X 64 := hx 64 (by decide) (by decide) (by decide)
  have x65 : X' 65 = X 65 := hx 65 (by decide) (by decide) (by decide)
  have x66 : X' 66 = X 66 := hx 66 (by decide) (by decide) (by decide)
  have x67 : X' 67 = X 67 := hx 67 (by decide) (by decide) (by decide)
  have x68 : X' 68 = X 68 := hx 68 (by decide) (by decide) (by decide)
  have x40 : X' 40 = X 40 := hx 40 (by decide) (by decide) (by decide)
  refine ⟨?_, ?_, ?_, ?_, ?_, ?_, ?_, ?_, ?_, ?_, ?_, ?_, ?_, ?_, ?_, ?_, ?_, ?_, ?_, ?_, ?_, ?_, ?_, ?_, ?_, ?_, ?_, ?_, ?_, ?_, ?_, ?_, ?_, trivial⟩
  · -- day
    simp only [nC, nS, nF, nR, k0, k3, k4, k6, k7, k8, k9, k11, k12, k13, k14, k15, k16, l0, l1, l2, l3, lk1, lk2, x44, x45, x46, x47, x48, x49, x51, x53, x54, x55, x56, x58, x59, x60, x61, x62, x64, x65, x66, x67, x68, x40]; exact rm_day h
  · -- term
    simp only [nC, nS, nF, nR, k0, k3, k4, k6, k7, k8, k9, k11, k12, k13, k14, k15, k16, l0, l1, l2, l3, lk1, lk2, x44, x45, x46, x47, x48, x49, x51, x53, x54, x55, x56, x58, x59, x60, x61, x62, x64, x65, x66, x67, x68, x40]; exact rm_term h
  · -- nC
    simp only [nC, nS, nF, nR, k0, k3, k4, k6, k7, k8, k9, k11, k12, k13, k14, k15, k16, l0, l1, l2, l3, lk1, lk2, x44, x45, x46, x47, x48, x49, x51, x53, x54, x55, x56, x58, x59, x60, x61, x62, x64, x65, x66, x67, x68, x40]; exact rm_nC h
  · -- nS
    simp only [nC, nS, nF, nR, k0, k3, k4, k6, k7, k8, k9, k11, k12, k13, k14, k15, k16, l0, l1, l2, l3, lk1, lk2, x44, x45, x46, x47, x48, x49, x51, x53, x54, x55, x56, x58, x59, x60, x61, x62, x64, x65, x66, x67, x68, x40]; exact rm_nS h
  · -- nF
    simp only [nC, nS, nF, nR, k0, k3, k4, k6, k7, k8, k9, k11, k12, k13, k14, k15, k16, l0, l1, l2, l3, lk1, lk2, x44, x45, x46, x47, x48, x49, x51, x53, x54, x55, x56, x58, x59, x60, x61, x62, x64, x65, x66, x67, x68, x40]; exact rm_nF h
  · -- nR
    simp only [nC, nS, nF, nR, k0, k3, k4, k6, k7, k8, k9, k11, k12, k13, k14, k15, k16, l0, l1, l2, l3, lk1, lk2, x44, x45, x46, x47, x48, x49, x51, x53, x54, x55, x56, x58, x59, x60, x61, x62, x64, x65, x66, x67, x68, x40]; exact rm_nR h
  · -- crd
    simp only [nC, nS, nF, nR, k0, k3, k4, k6, k7, k8, k9, k11, k12, k13, k14, k15, k16, l0, l1, l2, l3, lk1, lk2, x44, x45, x46, x47, x48, x49, x51, x53, x54, x55, x56, x58, x59, x60, x61, x62, x64, x65, x66, x67, x68, x40]; exact rm_crd h
  · -- sea
    simp only [nC, nS, nF, nR, k0, k3, k4, k6, k7, k8, k9, k11, k12, k13, k14, k15, k16, l0, l1, l2, l3, lk1, lk2, x44, x45, x46, x47, x48, x49, x51, x53, x54, x55, x56, x58, x59, x60, x61, x62, x64, x65, x66, x67, x68, x40]; exact rm_sea h
  · -- res
    simp only [nC, nS, nF, nR, k0, k3, k4, k6, k7, k8, k9, k11, k12, k13, k14, k15, k16, l0, l1, l2, l3, lk1, lk2, x44, x45, x46, x47, x48, x49, x51, x53, x54, x55, x56, x58, x59, x60, x61, x62, x64, x65, x66, x67, x68, x40]; exact rm_res h
  · -- res0
    simp only [nC, nS, nF, nR, k0, k3, k4, k6, k7, k8, k9, k11, k12, k13, k14, k15, k16, l0, l1, l2, l3, lk1, lk2, x44, x45, x46, x47, x48, x49, x51, x53, x54, x55, x56, x58, x59, x60, x61, x62, x64, x65, x66, x67, x68, x40]; exact rm_res0 h
  · -- req
    simp only [nC, nS, nF, nR, k0, k3, k4, k6, k7, k8, k9, k11, k12, k13, k14, k15, k16, l0, l1, l2, l3, lk1, lk2, x44, x45, x46, x47, x48, x49, x51, x53, x54, x55, x56, x58, x59, x60, x61, x62, x64, x65, x66, x67, x68, x40]; exact rm_req h
  · -- wN
    simp only [nC, nS, nF, nR, k0, k3, k4, k6, k7, k8, k9, k11, k12, k13, k14, k15, k16, l0, l1, l2, l3, lk1, lk2, x44, x45, x46, x47, x48, x49, x51, x53, x54, x55, x56, x58, x59, x60, x61, x62, x64, x65, x66, x67, x68, x40]; exact rm_wN h
  · -- wN0
    simp only [nC, nS, nF, nR, k0, k3, k4, k6, k7, k8, k9, k11, k12, k13, k14, k15, k16, l0, l1, l2, l3, lk1, lk2, x44, x45, x46, x47, x48, x49, x51, x53, x54, x55, x56, x58, x59, x60, x61, x62, x64, x65, x66, x67, x68, x40]; exact rm_wN0 h
  · -- wA
    simp only [nC, nS, nF, nR, k0, k3, k4, k6, k7, k8, k9, k11, k12, k13, k14, k15, k16, l0, l1, l2, l3, lk1, lk2, x44, x45, x46, x47, x48, x49, x51, x53, x54, x55, x56, x58, x59, x60, x61, x62, x64, x65, x66, x67, x68, x40]; exact rm_wA h
  · -- maj
    simp only [nC, nS, nF, nR, k0, k3, k4, k6, k7, k8, k9, k11, k12, k13, k14, k15, k16, l0, l1, l2, l3, lk1, lk2, x44, x45, x46, x47, x48, x49, x51, x53, x54, x55, x56, x58, x59, x60, x61, x62, x64, x65, x66, x67, x68, x40]; exact rm_maj h
  · -- tak
    intro s2 h2; rw [nSe] at h2; rw [h52]; by_cases e : s2 = s; (subst e; rw [if_pos rfl]; exact ⟨by decide, by decide, fun j hj => by rw [z5_at, if_pos hj]; show Nat.testBit 0 j = _; simp⟩); (rw [if_neg e, show z5 O s 20 5 s2 = O 5 s2 from if_neg (fun z => e z.2)]; exact rm_tak h s2 h2)
  · -- tak0
    intro s2 h2 h3; rw [nSe] at h2; rw [h52, if_neg (by omega)]; exact rm_tak0 h s2 h2 h3
  · -- mov
    simp only [nC, nS, nF, nR, k0, k3, k4, k6, k7, k8, k9, k11, k12, k13, k14, k15, k16, l0, l1, l2, l3, lk1, lk2, x44, x45, x46, x47, x48, x49, x51, x53, x54, x55, x56, x58, x59, x60, x61, x62, x64, x65, x66, x67, x68, x40]; exact rm_mov h
  · -- mov0
    simp only [nC, nS, nF, nR, k0, k3, k4, k6, k7, k8, k9, k11, k12, k13, k14, k15, k16, l0, l1, l2, l3, lk1, lk2, x44, x45, x46, x47, x48, x49, x51, x53, x54, x55, x56, x58, x59, x60, x61, x62, x64, x65, x66, x67, x68, x40]; exact rm_mov0 h
  · -- tm
    simp only [nC, nS, nF, nR, k0, k3, k4, k6, k7, k8, k9, k11, k12, k13, k14, k15, k16, l0, l1, l2, l3, lk1, lk2, x44, x45, x46, x47, x48, x49, x51, x53, x54, x55, x56, x58, x59, x60, x61, x62, x64, x65, x66, x67, x68, x40]; exact rm_tm h
  · -- tm0
    simp only [nC, nS, nF, nR, k0, k3, k4, k6, k7, k8, k9, k11, k12, k13, k14, k15, k16, l0, l1, l2, l3, lk1, lk2, x44, x45, x46, x47, x48, x49, x51, x53, x54, x55, x56, x58, x59, x60, x61, x62, x64, x65, x66, x67, x68, x40]; exact rm_tm0 h
  · -- tri
    simp only [nC, nS, nF, nR, k0, k3, k4, k6, k7, k8, k9, k11, k12, k13, k14, k15, k16, l0, l1, l2, l3, lk1, lk2, x44, x45, x46, x47, x48, x49, x51, x53, x54, x55, x56, x58, x59, x60, x61, x62, x64, x65, x66, x67, x68, x40]; exact rm_tri h
  · -- tri0
    simp only [nC, nS, nF, nR, k0, k3, k4, k6, k7, k8, k9, k11, k12, k13, k14, k15, k16, l0, l1, l2, l3, lk1, lk2, x44, x45, x46, x47, x48, x49, x51, x53, x54, x55, x56, x58, x59, x60, x61, x62, x64, x65, x66, x67, x68, x40]; exact rm_tri0 h
  · -- trd
    simp only [nC, nS, nF, nR, k0, k3, k4, k6, k7, k8, k9, k11, k12, k13, k14, k15, k16, l0, l1, l2, l3, lk1, lk2, x44, x45, x46, x47, x48, x49, x51, x53, x54, x55, x56, x58, x59, x60, x61, x62, x64, x65, x66, x67, x68, x40]; exact rm_trd h
  · -- dep
    simp only [nC, nS, nF, nR, k0, k3, k4, k6, k7, k8, k9, k11, k12, k13, k14, k15, k16, l0, l1, l2, l3, lk1, lk2, x44, x45, x46, x47, x48, x49, x51, x53, x54, x55, x56, x58, x59, x60, x61, x62, x64, x65, x66, x67, x68, x40]; exact rm_dep h
  · -- f0
    simp only [nC, nS, nF, nR, k0, k3, k4, k6, k7, k8, k9, k11, k12, k13, k14, k15, k16, l0, l1, l2, l3, lk1, lk2, x44, x45, x46, x47, x48, x49, x51, x53, x54, x55, x56, x58, x59, x60, x61, x62, x64, x65, x66, x67, x68, x40]; exact rm_f0 h
  · -- f1
    simp only [nC, nS, nF, nR, k0, k3, k4, k6, k7, k8, k9, k11, k12, k13, k14, k15, k16, l0, l1, l2, l3, lk1, lk2, x44, x45, x46, x47, x48, x49, x51, x53, x54, x55, x56, x58, x59, x60, x61, x62, x64, x65, x66, x67, x68, x40]; exact rm_f1 h
  · -- f2
    simp only [nC, nS, nF, nR, k0, k3, k4, k6, k7, k8, k9, k11, k12, k13, k14, k15, k16, l0, l1, l2, l3, lk1, lk2, x44, x45, x46, x47, x48, x49, x51, x53, x54, x55, x56, x58, x59, x60, x61, x62, x64, x65, x66, x67, x68, x40]; exact rm_f2 h
  · -- f3
    simp only [nC, nS, nF, nR, k0, k3, k4, k6, k7, k8, k9, k11, k12, k13, k14, k15, k16, l0, l1, l2, l3, lk1, lk2, x44, x45, x46, x47, x48, x49, x51, x53, x54, x55, x56, x58, x59, x60, x61, x62, x64, x65, x66, x67, x68, x40]; exact rm_f3 h
  · -- f4
    simp only [nC, nS, nF, nR, k0, k3, k4, k6, k7, k8, k9, k11, k12, k13, k14, k15, k16, l0, l1, l2, l3, lk1, lk2, x44, x45, x46, x47, x48, x49, x51, x53, x54, x55, x56, x58, x59, x60, x61, x62, x64, x65, x66, x67, x68, x40]; exact rm_f4 h
  · -- rul
    simp only [nC, nS, nF, nR, k0, k3, k4, k6, k7, k8, k9, k11, k12, k13, k14, k15, k16, l0, l1, l2, l3, lk1, lk2, x44, x45, x46, x47, x48, x49, x51, x53, x54, x55, x56, x58, x59, x60, x61, x62, x64, x65, x66, x67, x68, x40]; exact rm_rul h
  · -- alw
    simp only [nC, nS, nF, nR, k0, k3, k4, k6, k7, k8, k9, k11, k12, k13, k14, k15, k16, l0, l1, l2, l3, lk1, lk2, x44, x45, x46, x47, x48, x49, x51, x53, x54, x55, x56, x58, x59, x60, x61, x62, x64, x65, x66, x67, x68, x40]; exact rm_alw h
  · -- deg
    simp only [nC, nS, nF, nR, k0, k3, k4, k6, k7, k8, k9, k11, k12, k13, k14, k15, k16, l0, l1, l2, l3, lk1, lk2, x44, x45, x46, x47, x48, x49, x51, x53, x54, x55, x56, x58, x59, x60, x61, x62, x64, x65, x66, x67, x68, x40]; exact rm_deg h
set_option maxHeartbeats 2000000 in
theorem rm_te {O X X' : XM} (h : RM O X) {t : Int} (hx : ∀ k, 40 ≤ k → k ≤ 68 → k ≠ 40 → X' k = X k) (h40 : ∀ j, X' 40 0 j = if j = 2 then t else X 40 0 j) : RM (xs O 0 0 6 t) X' := by
  have k3 : (xs O 0 0 6 t) 3 = O 3 := xs_nk (by decide)
  have k4 : (xs O 0 0 6 t) 4 = O 4 := xs_nk (by decide)
  have k5 : (xs O 0 0 6 t) 5 = O 5 := xs_nk (by decide)
  have k6 : (xs O 0 0 6 t) 6 = O 6 := xs_nk (by decide)
  have k7 : (xs O 0 0 6 t) 7 = O 7 := xs_nk (by decide)
  have k8 : (xs O 0 0 6 t) 8 = O 8 := xs_nk (by decide)
  have k9 : (xs O 0 0 6 t) 9 = O 9 := xs_nk (by decide)
  have k11 : (xs O 0 0 6 t) 11 = O 11 := xs_nk (by decide)
  have k12 : (xs O 0 0 6 t) 12 = O 12 := xs_nk (by decide)
  have k13 : (xs O 0 0 6 t) 13 = O 13 := xs_nk (by decide)
  have k14 : (xs O 0 0 6 t) 14 = O 14 := xs_nk (by decide)
  have k15 : (xs O 0 0 6 t) 15 = O 15 := xs_nk (by decide)
  have k16 : (xs O 0 0 6 t) 16 = O 16 := xs_nk (by decide)
  have l0 : (xs O 0 0 6 t) 1 0 2 = O 1 0 2 := by rw [xs_nk (by decide)]
  have l1 : (xs O 0 0 6 t) 1 1 2 = O 1 1 2 := by rw [xs_nk (by decide)]
  have l2 : (xs O 0 0 6 t) 1 2 2 = O 1 2 2 := by rw [xs_nk (by decide)]
  have l3 : (xs O 0 0 6 t) 1 3 2 = O 1 3 2 := by rw [xs_nk (by decide)]
  have lk1 : (xs O 0 0 6 t) 1 = O 1 := xs_nk (by decide)
  have lk2 : (xs O 0 0 6 t) 2 = O 2 := xs_nk (by decide)
  have nCe : nC (xs O 0 0 6 t) = nC O := l0
  have nSe : nS (xs O 0 0 6 t) = nS O := l1
  have nFe : nF (xs O 0 0 6 t) = nF O := l2
  have nRe : nR (xs O 0 0 6 t) = nR O := l3
  have x44 : X' 44 = X 44 := hx 44 (by decide) (by decide) (by decide)
  have x45 : X' 45 = X 45 := hx 45 (by decide) (by decide) (by decide)
  have x46 : X' 46 = X 46 := hx 46 (by decide) (by decide) (by decide)
  have x47 : X' 47 = X 47 := hx 47 (by decide) (by decide) (by decide)
  have x48 : X' 48 = X 48 := hx 48 (by decide) (by decide) (by decide)
  have x49 : X' 49 = X 49 := hx 49 (by decide) (by decide) (by decide)
  have x51 : X' 51 = X 51 := hx 51 (by decide) (by decide) (by decide)
  have x52 : X' 52 = X 52 := hx 52 (by decide) (by decide) (by decide)
  have x53 : X' 53 = X 53 := hx 53 (by decide) (by decide) (by decide)
  have x54 : X' 54 = X 54 := hx 54 (by decide) (by decide) (by decide)
  have x55 : X' 55 = X 55 := hx 55 (by decide) (by decide) (by decide)
  have x56 : X' 56 = X 56 := hx 56 (by decide) (by decide) (by decide)
  have x58 : X' 58 = X 58 := hx 58 (by decide) (by decide) (by decide)
  have x59 : X' 59 = X 59 := hx 59 (by decide) (by decide) (by decide)
  have x60 : X' 60 = X 60 := hx 60 (by decide) (by decide) (by decide)
  have x61 : X' 61 = X 61 := hx 61 (by decide) (by decide) (by decide)
  have x62 : X' 62 = X 62 := hx 62 (by decide) (by decide) (by decide)
  have x64 : X' 64 = X 64 := hx 64 (by decide) (by decide) (by decide)
  have x65 : X' 65 = X 65 := hx 65 (by decide) (by decide) (by decide)
  have x66 : X' 66 = X 66 := hx 66 (by decide) (by decide) (by decide)
  have x67 : X' 67 = X 67 := hx 67 (by decide) (by decide) (by decide)
  have x68 : X' 68 = X 68 := hx 68 (by decide) (by decide) (by decide)
  refine ⟨?_, ?_, ?_, ?_, ?_, ?_, ?_, ?_, ?_, ?_, ?_, ?_, ?_, ?_, ?_, ?_, ?_, ?_, ?_, ?_, ?_, ?_, ?_, ?_, ?_, ?_, ?_, ?_, ?_, ?_, ?_, ?_, ?_, trivial⟩
  · -- day
    rw [h40, if_neg (by decide), xs_at, if_neg (by decide)]; exact rm_day h
  · -- term
    rw [h40, if_pos rfl, xs_at, if_pos rfl]
  · -- nC
    rw [nCe, h40, if_neg (by decide)]; exact rm_nC h
  · -- nS
    rw [nSe, h40, if_neg (by decide)]; exact rm_nS h
  · -- nF
    rw [nFe, h40, if_neg (by decide)]; exact rm_nF h
  · -- nR
    rw [nRe, h40, if_neg (by decide)]; exact rm_nR h
  · -- crd
    simp only [nC, nS, nF, nR, k3, k4, k5, k6, k7, k8, k9, k11, k12, k13, k14, k15, k16, l0, l1, l2, l3, lk1, lk2, x44, x45, x46, x47, x48, x49, x51, x52, x53, x54, x55, x56, x58, x59, x60, x61, x62, x64, x65, x66, x67, x68]; exact rm_crd h
  · -- sea
    simp only [nC, nS, nF, nR, k3, k4, k5, k6, k7, k8, k9, k11, k12, k13, k14, k15, k16, l0, l1, l2, l3, lk1, lk2, x44, x45, x46, x47, x48, x49, x51, x52, x53, x54, x55, x56, x58, x59, x60, x61, x62, x64, x65, x66, x67, x68]; exact rm_sea h
  · -- res
    simp only [nC, nS, nF, nR, k3, k4, k5, k6, k7, k8, k9, k11, k12, k13, k14, k15, k16, l0, l1, l2, l3, lk1, lk2, x44, x45, x46, x47, x48, x49, x51, x52, x53, x54, x55, x56, x58, x59, x60, x61, x62, x64, x65, x66, x67, x68]; exact rm_res h
  · -- res0
    simp only [nC, nS, nF, nR, k3, k4, k5, k6, k7, k8, k9, k11, k12, k13, k14, k15, k16, l0, l1, l2, l3, lk1, lk2, x44, x45, x46, x47, x48, x49, x51, x52, x53, x54, x55, x56, x58, x59, x60, x61, x62, x64, x65, x66, x67, x68]; exact rm_res0 h
  · -- req
    simp only [nC, nS, nF, nR, k3, k4, k5, k6, k7, k8, k9, k11, k12, k13, k14, k15, k16, l0, l1, l2, l3, lk1, lk2, x44, x45, x46, x47, x48, x49, x51, x52, x53, x54, x55, x56, x58, x59, x60, x61, x62, x64, x65, x66, x67, x68]; exact rm_req h
  · -- wN
    simp only [nC, nS, nF, nR, k3, k4, k5, k6, k7, k8, k9, k11, k12, k13, k14, k15, k16, l0, l1, l2, l3, lk1, lk2, x44, x45, x46, x47, x48, x49, x51, x52, x53, x54, x55, x56, x58, x59, x60, x61, x62, x64, x65, x66, x67, x68]; exact rm_wN h
  · -- wN0
    simp only [nC, nS, nF, nR, k3, k4, k5, k6, k7, k8, k9, k11, k12, k13, k14, k15, k16, l0, l1, l2, l3, lk1, lk2, x44, x45, x46, x47, x48, x49, x51, x52, x53, x54, x55, x56, x58, x59, x60, x61, x62, x64, x65, x66, x67, x68]; exact rm_wN0 h
  · -- wA
    simp only [nC, nS, nF, nR, k3, k4, k5, k6, k7, k8, k9, k11, k12, k13, k14, k15, k16, l0, l1, l2, l3, lk1, lk2, x44, x45, x46, x47, x48, x49, x51, x52, x53, x54, x55, x56, x58, x59, x60, x61, x62, x64, x65, x66, x67, x68]; exact rm_wA h
  · -- maj
    simp only [nC, nS, nF, nR, k3, k4, k5, k6, k7, k8, k9, k11, k12, k13, k14, k15, k16, l0, l1, l2, l3, lk1, lk2, x44, x45, x46, x47, x48, x49, x51, x52, x53, x54, x55, x56, x58, x59, x60, x61, x62, x64, x65, x66, x67, x68]; exact rm_maj h
  · -- tak
    simp only [nC, nS, nF, nR, k3, k4, k5, k6, k7, k8, k9, k11, k12, k13, k14, k15, k16, l0, l1, l2, l3, lk1, lk2, x44, x45, x46, x47, x48, x49, x51, x52, x53, x54, x55, x56, x58, x59, x60, x61, x62, x64, x65, x66, x67, x68]; exact rm_tak h
  · -- tak0
    simp only [nC, nS, nF, nR, k3, k4, k5, k6, k7, k8, k9, k11, k12, k13, k14, k15, k16, l0, l1, l2, l3, lk1, lk2, x44, x45, x46, x47, x48, x49, x51, x52, x53, x54, x55, x56, x58, x59, x60, x61, x62, x64, x65, x66, x67, x68]; exact rm_tak0 h
  · -- mov
    simp only [nC, nS, nF, nR, k3, k4, k5, k6, k7, k8, k9, k11, k12, k13, k14, k15, k16, l0, l1, l2, l3, lk1, lk2, x44, x45, x46, x47, x48, x49, x51, x52, x53, x54, x55, x56, x58, x59, x60, x61, x62, x64, x65, x66, x67, x68]; exact rm_mov h
  · -- mov0
    simp only [nC, nS, nF, nR, k3, k4, k5, k6, k7, k8, k9, k11, k12, k13, k14, k15, k16, l0, l1, l2, l3, lk1, lk2, x44, x45, x46, x47, x48, x49, x51, x52, x53, x54, x55, x56, x58, x59, x60, x61, x62, x64, x65, x66, x67, x68]; exact rm_mov0 h
  · -- tm
    simp only [nC, nS, nF, nR, k3, k4, k5, k6, k7, k8, k9, k11, k12, k13, k14, k15, k16, l0, l1, l2, l3, lk1, lk2, x44, x45, x46, x47, x48, x49, x51, x52, x53, x54, x55, x56, x58, x59, x60, x61, x62, x64, x65, x66, x67, x68]; exact rm_tm h
  · -- tm0
    simp only [nC, nS, nF, nR, k3, k4, k5, k6, k7, k8, k9, k11, k12, k13, k14, k15, k16, l0, l1, l2, l3, lk1, lk2, x44, x45, x46, x47, x48, x49, x51, x52, x53, x54, x55, x56, x58, x59, x60, x61, x62, x64, x65, x66, x67, x68]; exact rm_tm0 h
  · -- tri
    simp only [nC, nS, nF, nR, k3, k4, k5, k6, k7, k8, k9, k11, k12, k13, k14, k15, k16, l0, l1, l2, l3, lk1, lk2, x44, x45, x46, x47, x48, x49, x51, x52, x53, x54, x55, x56, x58, x59, x60, x61, x62, x64, x65, x66, x67, x68]; exact rm_tri h
  · -- tri0
    simp only [nC, nS, nF, nR, k3, k4, k5, k6, k7, k8, k9, k11, k12, k13, k14, k15, k16, l0, l1, l2, l3, lk1, lk2, x44, x45, x46, x47, x48, x49, x51, x52, x53, x54, x55, x56, x58, x59, x60, x61, x62, x64, x65, x66, x67, x68]; exact rm_tri0 h
  · -- trd
    simp only [nC, nS, nF, nR, k3, k4, k5, k6, k7, k8, k9, k11, k12, k13, k14, k15, k16, l0, l1, l2, l3, lk1, lk2, x44, x45, x46, x47, x48, x49, x51, x52, x53, x54, x55, x56, x58, x59, x60, x61, x62, x64, x65, x66, x67, x68]; exact rm_trd h
  · -- dep
    simp only [nC, nS, nF, nR, k3, k4, k5, k6, k7, k8, k9, k11, k12, k13, k14, k15, k16, l0, l1, l2, l3, lk1, lk2, x44, x45, x46, x47, x48, x49, x51, x52, x53, x54, x55, x56, x58, x59, x60, x61, x62, x64, x65, x66, x67, x68]; exact rm_dep h
  · -- f0
    simp only [nC, nS, nF, nR, k3, k4, k5, k6, k7, k8, k9, k11, k12, k13, k14, k15, k16, l0, l1, l2, l3, lk1, lk2, x44, x45, x46, x47, x48, x49, x51, x52, x53, x54, x55, x56, x58, x59, x60, x61, x62, x64, x65, x66, x67, x68]; exact rm_f0 h
  · -- f1
    simp only [nC, nS, nF, nR, k3, k4, k5, k6, k7, k8, k9, k11, k12, k13, k14, k15, k16, l0, l1, l2, l3, lk1, lk2, x44, x45, x46, x47, x48, x49, x51, x52, x53, x54, x55, x56, x58, x59, x60, x61, x62, x64, x65, x66, x67, x68]; exact rm_f1 h
  · -- f2
    simp only [nC, nS, nF, nR, k3, k4, k5, k6, k7, k8, k9, k11, k12, k13, k14, k15, k16, l0, l1, l2, l3, lk1, lk2, x44, x45, x46, x47, x48, x49, x51, x52, x53, x54, x55, x56, x58, x59, x60, x61, x62, x64, x65, x66, x67, x68]; exact rm_f2 h
  · -- f3
    simp only [nC, nS, nF, nR, k3, k4, k5, k6, k7, k8, k9, k11, k12, k13, k14, k15, k16, l0, l1, l2, l3, lk1, lk2, x44, x45, x46, x47, x48, x49, x51, x52, x53, x54, x55, x56, x58, x59, x60, x61, x62, x64, x65, x66, x67, x68]; exact rm_f3 h
  · -- f4
    simp only [nC, nS, nF, nR, k3, k4, k5, k6, k7, k8, k9, k11, k12, k13, k14, k15, k16, l0, l1, l2, l3, lk1, lk2, x44, x45, x46, x47, x48, x49, x51, x52, x53, x54, x55, x56, x58, x59, x60, x61, x62, x64, x65, x66, x67, x68]; exact rm_f4 h
  · -- rul
    simp only [nC, nS, nF, nR, k3, k4, k5, k6, k7, k8, k9, k11, k12, k13, k14, k15, k16, l0, l1, l2, l3, lk1, lk2, x44, x45, x46, x47, x48, x49, x51, x52, x53, x54, x55, x56, x58, x59, x60, x61, x62, x64, x65, x66, x67, x68]; exact rm_rul h
  · -- alw
    simp only [nC, nS, nF, nR, k3, k4, k5, k6, k7, k8, k9, k11, k12, k13, k14, k15, k16, l0, l1, l2, l3, lk1, lk2, x44, x45, x46, x47, x48, x49, x51, x52, x53, x54, x55, x56, x58, x59, x60, x61, x62, x64, x65, x66, x67, x68]; exact rm_alw h
  · -- deg
    simp only [nC, nS, nF, nR, k3, k4, k5, k6, k7, k8, k9, k11, k12, k13, k14, k15, k16, l0, l1, l2, l3, lk1, lk2, x44, x45, x46, x47, x48, x49, x51, x52, x53, x54, x55, x56, x58, x59, x60, x61, x62, x64, x65, x66, x67, x68]; exact rm_deg h
theorem wo_ctA {X : XM} (h : WO X) (hd : 5 < X 0 0 5) : ∀ n : Nat, (n : Int) ≤ nS X → WO (ctA X n)
  | 0, _ => h
  | n + 1, hn => by
    have e1 : ctA X n 1 = X 1 := ctA_k (by decide) (by decide) (by decide) (by decide) (by decide) n
    have e0 : ctA X n 0 = X 0 := ctA_k (by decide) (by decide) (by decide) (by decide) (by decide) n
    exact wo_ctS (wo_ctA h hd n (by omega)) (by unfold nS; rw [e1]; show (n : Int) < nS X; omega) (by rw [e0]; exact hd) 20 (Nat.le_refl 20)
theorem dtS_9 (X : XM) (s n : Nat) : dtS X s n 9 = ctS X s n 9 := by rw [ctS_z5, z5_k (by decide)]
theorem dtS_tri {X : XM} (h : WO X) {s : Nat} (hs : (s : Int) < nS X) (hd : 5 < X 0 0 5) {n : Nat} (hn : n ≤ 20) : ∀ s2 c2 : Nat, (s2 : Int) < nS (dtS X s n) → c2 < 20 → 0 ≤ dtS X s n 9 s2 c2 ∧ dtS X s n 9 s2 c2 ≤ 3 := by
  intro s2 c2 h2 h3
  have e1 : dtS X s n 1 = X 1 := dtS_k (by decide) (by decide) (by decide) (by decide) n
  have e2 : ctS X s n 1 = X 1 := ctS_k (by decide) (by decide) (by decide) (by decide) (by decide) n
  rw [dtS_9]
  refine wo_tri (wo_ctS h hs hd n hn) s2 c2 ?_ h3
  unfold nS at *
  rw [e2]
  rw [e1] at h2
  exact h2
theorem rm_dtC_n {O X X' : XM} (h : RM O X) {s c : Nat} (hs : (s : Int) < nS O) (hc : c < 20) (ht : ¬ tak O s c = true) (hX : X' = xs X 54 0 (20 * s + c) (-1)) : RM (dtC O s c) X' := by
  unfold dtC
  rw [if_neg ht, hX]
  exact rm_mk h hs hc (fun k _ _ q => xs_nk q) (fun j => xs_at _ _ _ _ _ _)
theorem rm_dtC_t {O X X' : XM} {s c : Nat} (h : RM (aa O s c (etm O s c)) X) (hs : (s : Int) < nS O) (hc : c < 20) (ht : tak O s c = true) (hX : X' = xs X 54 0 (20 * s + c) (-1)) : RM (dtC O s c) X' := by
  unfold dtC
  rw [if_pos ht, hX]
  have e1 : aa O s c (etm O s c) 1 = O 1 := aa_k (by decide) (by decide) (by decide)
  exact rm_mk h (by unfold nS; rw [e1]; exact hs) hc (fun k _ _ q => xs_nk q) (fun j => xs_at _ _ _ _ _ _)
set_option maxRecDepth 100000 in
set_option maxHeartbeats 4000000 in
theorem c_X12_endTerm_x1 {g : Gt} {α : AL} {ν : Nat → Nat → Bool} {X : XM} {h : AH} (hT : TR g α ν X h) {O : XM} (hO : WO O) (hM : RM O X)  (hd : O 0 0 5 < 21) : Mu g α ν M_X12_endTerm 27 [.ref (α 40 0)] h (some (.int (J (0)))) (fun X' => X' = xs X 40 0 0 1) := by
  refine mu_of rfl rfl (ls := [some (.ref (α 40 0)), none, none, none]) rfl (Nat.le_of_ble_eq_true rfl) ?_
  show Ev g M_X12_endTerm 27 0 [some (.ref (α 40 0)), none, none, none] [] h 0 0 (UQ g α ν (some (.int (J (0)))) (fun X' => X' = xs X 40 0 0 1))
  have q0 := rm_nC hM
  have q1 := wo_nC hO
  have q2 := rm_nS hM
  have q3 := wo_nS hO
  have qd := rm_day hM
  have qd2 := wo_day hO
  refine ev_ald0 1 dX12_endTerm_0 rfl ?_
  refine ev_ald0 2 dX12_endTerm_1 rfl ?_
  refine ev_getfield 5 14 1 fl_X12_164_14 (tr40 hT) rfl dX12_endTerm_2 rfl ?_
  refine tj_bipush 7 dX12_endTerm_5 (by decide) rfl ?_
  refine tj_icmp_gt 14 10 dX12_endTerm_7 (by decide) rfl (by first | exact TR.rng hT _ _ _ | exact R31_of _ | exact bi_R _ | (constructor <;> omega)) (by first | exact TR.rng hT _ _ _ | exact R31_of _ | exact bi_R _ | (constructor <;> omega)) (fun c7 => ?_) (fun c7 => ?_)
  · exact False.elim (by omega)
  · skip
    refine tj_iconst 11 dX12_endTerm_10 rfl ?_
    refine ev_goto 15 dX12_endTerm_11 (by decide) ?_
    refine tm_V1 18 14 dX12_endTerm_15 lkv_X12_144 (tr40 hT) rfl rfl (by first | decide | omega) (Nat.le_of_ble_eq_true rfl) (goes_n hT (by omega)) (fun h X1 hT hP15 => ?_)
    have hM1 := hM
    have hM : RM O X1 := by rw [hP15]; exact rm_th hM1 _
    have q0 := rm_nC hM
    have q2 := rm_nS hM
    refine tj_if_ne 23 21 dX12_endTerm_18 (by decide) rfl (by first | exact TR.rng hT _ _ _ | exact R31_of _ | exact bi_R _ | (constructor <;> omega)) (fun c18 => ?_) (fun c18 => ?_)
    · exact False.elim (by omega)
    · skip
      refine tj_iconst 22 dX12_endTerm_21 rfl ?_
      exact ev_ireturn (uq_i (by first | rfl | omega | exact bi_dt (by omega) | exact bi_df (by omega) | (skip)) hT (by assumption)) rfl dX12_endTerm_22
set_option maxRecDepth 100000 in
set_option maxHeartbeats 4000000 in
theorem c_X12_endTerm_ok {g : Gt} {α : AL} {ν : Nat → Nat → Bool} {X : XM} {h : AH} (hT : TR g α ν X h) {O : XM} (hO : WO O) (hM : RM O X)  (hd : 20 < O 0 0 5) : Mu g α ν M_X12_endTerm 27 [.ref (α 40 0)] h (some (.int (J (caN O (nS O).toNat)))) (fun X' => RM (etO O) X' ∧ CZ X X' 0) := by
  refine mu_of rfl rfl (ls := [some (.ref (α 40 0)), none, none, none]) rfl (Nat.le_of_ble_eq_true rfl) ?_
  show Ev g M_X12_endTerm 27 0 [some (.ref (α 40 0)), none, none, none] [] h 0 0 (UQ g α ν (some (.int (J (caN O (nS O).toNat)))) (fun X' => RM (etO O) X' ∧ CZ X X' 0))
  have q0 := rm_nC hM
  have q1 := wo_nC hO
  have q2 := rm_nS hM
  have q3 := wo_nS hO
  have qd := rm_day hM
  have qd2 := wo_day hO
  have qt2 := wo_term hO
  refine ev_ald0 1 dX12_endTerm_0 rfl ?_
  refine ev_ald0 2 dX12_endTerm_1 rfl ?_
  refine ev_getfield 5 14 1 fl_X12_164_14 (tr40 hT) rfl dX12_endTerm_2 rfl ?_
  refine tj_bipush 7 dX12_endTerm_5 (by decide) rfl ?_
  refine tj_icmp_gt 14 10 dX12_endTerm_7 (by decide) rfl (by first | exact TR.rng hT _ _ _ | exact R31_of _ | exact bi_R _ | (constructor <;> omega)) (by first | exact TR.rng hT _ _ _ | exact R31_of _ | exact bi_R _ | (constructor <;> omega)) (fun c7 => ?_) (fun c7 => ?_)
  · skip
    refine tj_iconst 15 dX12_endTerm_14 rfl ?_
    refine tm_V1 18 14 dX12_endTerm_15 lkv_X12_144 (tr40 hT) rfl rfl (by first | decide | omega) (Nat.le_of_ble_eq_true rfl) (goes_0 hT) (fun h X1 hT hP15 => ?_)
    have hM1 := hM
    have hM : RM O X1 := by rw [hP15]; exact rm_th hM1 _
    have q0 := rm_nC hM
    have q2 := rm_nS hM
    have hC0 : CZ X X1 0 := by rw [hP15]; exact CZ.go X 0
    refine tj_if_ne 23 21 dX12_endTerm_18 (by decide) rfl (by first | exact TR.rng hT _ _ _ | exact R31_of _ | exact bi_R _ | (constructor <;> omega)) (fun c18 => ?_) (fun c18 => ?_)
    · skip
      refine tj_iconst 24 dX12_endTerm_23 rfl ?_
      refine ev_ist1 25 dX12_endTerm_24 rfl (by decide) rfl ?_
      refine tj_iconst 26 dX12_endTerm_25 rfl ?_
      refine ev_ist2 27 dX12_endTerm_26 rfl (by decide) rfl ?_
      have lp27 : ∀ (n27 : Nat) (n : Nat) (z1 : Int) (z2 : Int) (o3 : Option Value) (h : AH) (X2 : XM), 17 - n < n27 → ((n : Int) ≤ nS O) → z1 = caN O n → z2 = (n : Int) → TR g α ν X2 h → (RM (ctA O n) X2 ∧ CZ X X2 0) → Ev g M_X12_endTerm 27 27 [some (.ref (α 40 0)), some (.int (J z1)), some (.int (J z2)), o3] [] h 0 0 (UQ g α ν (some (.int (J (caN O (nS O).toNat)))) (fun X' => RM (etO O) X' ∧ CZ X X' 0)) := by
        intro n27
        induction n27 with
        | zero => intro n z1 z2 o3 h X2 hm; exact absurd hm (Nat.not_lt_zero _)
        | succ n27 ih27 =>
          intro n z1 z2 o3 h X2 hm27 hn e1 e2 hT hI
          subst e1
          subst e2
          obtain ⟨hMk, hCk⟩ := hI
          have hOk := wo_ctA hO (by omega) n hn
          have ek1 : ctA O n 1 = O 1 := ctA_k (by decide) (by decide) (by decide) (by decide) (by decide) n
          have ek0 : ctA O n 0 = O 0 := ctA_k (by decide) (by decide) (by decide) (by decide) (by decide) n
          have enS : nS (ctA O n) = nS O := by unfold nS; rw [ek1]
          have enC : nC (ctA O n) = nC O := by unfold nC; rw [ek1]
          have q2k := rm_nS hMk
          have q0k := rm_nC hMk
          have hca := caN_R O n
          have htk : tak (ctA O n) n = tak O n := ctA_t O n
          have edk := rm_day hMk
          have etk := rm_term hMk
          rw [ek0] at edk etk
          refine ev_ild2 28 dX12_endTerm_27 rfl ?_
          refine ev_ald0 29 dX12_endTerm_28 rfl ?_
          refine ev_getfield 32 14 10 fl_X12_100_14 (tr40 hT) rfl dX12_endTerm_29 rfl ?_
          refine tj_icmp_ge 125 35 dX12_endTerm_32 (by decide) rfl (by first | exact TR.rng hT _ _ _ | exact R31_of _ | exact bi_R _ | (constructor <;> omega)) (by first | exact TR.rng hT _ _ _ | exact R31_of _ | exact bi_R _ | (constructor <;> omega)) (fun c32 => ?_) (fun c32 => ?_)
          · skip
            refine ev_ald0 126 dX12_endTerm_125 rfl ?_
            refine tj_iconst 127 dX12_endTerm_126 rfl ?_
            refine tv_puti 130 1 .int fl_X12_164_14 fp_14_1 hT (tv40 hT) (fun _ => rfl) rfl (Nat.le_of_ble_eq_true rfl) rfl rfl (by first | exact TR.rng hT _ _ _ | exact R31_of _ | exact bi_R _ | (constructor <;> omega)) dX12_endTerm_127 rfl (fun h hT => ?_)
            obtain ⟨X7, hX7⟩ : ∃ Z, Z = xs X2 40 0 1 0 := ⟨_, rfl⟩
            rw [← hX7] at hT
            have hM7 : RM (xs (ctA O n) 0 0 5 0) X7 := by rw [hX7]; exact rm_dy hMk (fun k _ _ q => xs_nk q) (fun j => xs_at _ _ _ _ _ _)
            have hC7 : CZ X X7 0 := by rw [hX7]; exact hCk.x4 (by decide)
            have e72 : X7 40 0 2 = O 0 0 6 := by rw [hX7, xs_at, if_neg (by decide)]; exact etk
            refine ev_ald0 131 dX12_endTerm_130 rfl ?_
            refine ev_dup 132 dX12_endTerm_131 rfl rfl ?_
            refine ev_getfield 135 14 2 fl_X12_199_14 (tr40 hT) rfl dX12_endTerm_132 rfl ?_
            refine tj_iconst 136 dX12_endTerm_135 rfl ?_
            refine tj_iadd 137 dX12_endTerm_136 rfl ?_
            refine tv_puti 140 2 .int fl_X12_199_14 fp_14_2 hT (tv40 hT) (fun _ => rfl) rfl (Nat.le_of_ble_eq_true rfl) rfl rfl (by first | exact TR.rng hT _ _ _ | exact R31_of _ | exact bi_R _ | (constructor <;> omega)) dX12_endTerm_137 rfl (fun h hT => ?_)
            obtain ⟨X8, hX8⟩ : ∃ Z, Z = xs X7 40 0 2 (X7 40 0 2 + 1) := ⟨_, rfl⟩
            rw [← hX8] at hT
            refine ev_ild1 141 dX12_endTerm_140 rfl ?_
            exact ev_ireturn (uq_i (by first | rfl | omega | exact bi_dt (by omega) | exact bi_df (by omega) | (rw [show n = (nS O).toNat by omega])) hT (by rw [etO, show (nS O).toNat = n by omega, hX8, e72]; exact ⟨rm_te hM7 (fun k _ _ q => xs_nk q) (fun j => xs_at _ _ _ _ _ _), hC7.x4 (by decide)⟩)) rfl dX12_endTerm_141
          · skip
            refine tj_iconst 36 dX12_endTerm_35 rfl ?_
            refine ev_ist3 37 dX12_endTerm_36 rfl (by decide) rfl ?_
            have lp37 : ∀ (n37 : Nat) (c : Nat) (z1 : Int) (z3 : Int)  (h : AH) (X4 : XM), 21 - c < n37 → ((c : Int) ≤ nC O) → z1 = caN O n + cnt (tak (ctA O n) n) c → z3 = (c : Int) → TR g α ν X4 h → (RM (dtS (ctA O n) n c) X4 ∧ CZ X X4 0) → Ev g M_X12_endTerm 27 37 [some (.ref (α 40 0)), some (.int (J z1)), some (.int (J (n : Int))), some (.int (J z3))] [] h 0 0 (UQ g α ν (some (.int (J (caN O (nS O).toNat)))) (fun X' => RM (etO O) X' ∧ CZ X X' 0)) := by
              intro n37
              induction n37 with
              | zero => intro c z1 z3 h X4 hm; exact absurd hm (Nat.not_lt_zero _)
              | succ n37 ih37 =>
                intro c z1 z3 h X4 hm37 hc e1 e3 hT hI
                subst e1
                subst e3
                obtain ⟨hMc, hCc⟩ := hI
                have ec1 : dtS (ctA O n) n c 1 = ctA O n 1 := dtS_k (by decide) (by decide) (by decide) (by decide) c
                have enc : nS (dtS (ctA O n) n c) = nS O := by unfold nS; rw [ec1]; exact enS
                have ecc : nC (dtS (ctA O n) n c) = nC O := by unfold nC; rw [ec1]; exact enC
                have q0c := rm_nC hMc
                have q2c := rm_nS hMc
                have hcn := cnt_0 (tak (ctA O n) n) c
                refine ev_ild3 38 dX12_endTerm_37 rfl ?_
                refine ev_ald0 39 dX12_endTerm_38 rfl ?_
                refine ev_getfield 42 14 3 fl_X12_93_14 (tr40 hT) rfl dX12_endTerm_39 rfl ?_
                refine tj_icmp_ge 112 45 dX12_endTerm_42 (by decide) rfl (by first | exact TR.rng hT _ _ _ | exact R31_of _ | exact bi_R _ | (constructor <;> omega)) (by first | exact TR.rng hT _ _ _ | exact R31_of _ | exact bi_R _ | (constructor <;> omega)) (fun c42 => ?_) (fun c42 => ?_)
                · skip
                  have q52 := rm_nS hMc
                  refine ev_ald0 113 dX12_endTerm_112 rfl ?_
                  refine ev_getfield 116 14 12 fl_X12_31_14 (tr40 hT) rfl dX12_endTerm_113 rfl ?_
                  refine ev_ild2 117 dX12_endTerm_116 rfl ?_
                  refine tj_iconst 118 dX12_endTerm_117 rfl ?_
                  refine tv_iast 119 hT (tv52 hT) (fun _ => rfl) (n) (by omega) (by omega) (by omega) (by first | exact TR.rng hT _ _ _ | exact R31_of _ | exact bi_R _ | (constructor <;> omega)) dX12_endTerm_118 rfl (fun h hT => ?_)
                  obtain ⟨X6, hX6⟩ : ∃ Z, Z = xs X4 52 0 n 0 := ⟨_, rfl⟩
                  rw [← hX6] at hT
                  have hM6 : RM (ctA O (n + 1)) X6 := by rw [ctA, ctS_20 hOk (by omega), enC, show (nC O).toNat = c by omega, hX6]; exact rm_z5 hMc (by omega) (fun k _ _ q => xs_nk q) (fun j => xs_at _ _ _ _ _ _)
                  have hC6 : CZ X X6 0 := by rw [hX6]; exact hCc.st (by decide)
                  refine tj_inc2 122 dX12_endTerm_119 rfl (by decide) rfl ?_
                  refine ev_goto 27 dX12_endTerm_122 (by decide) ?_
                  exact ih27 (n + 1) _ _ _ _ _ (by omega) (by first | omega | assumption | omega) (by first | rfl | omega | (rw [htk, caN, show c = (nC O).toNat by omega, ← cnt_far (p := tak O n) (n := (nC O).toNat) (fun c2 h2 h3 => by rw [← htk]; exact decide_eq_false (fun z => z (wo_far hOk n c2 (by omega) (by omega) h3).1)) (20 - (nC O).toNat) (by omega), show (nC O).toNat + (20 - (nC O).toNat) = 20 by omega])) (by first | rfl | omega | (rw [htk, caN, show c = (nC O).toNat by omega, ← cnt_far (p := tak O n) (n := (nC O).toNat) (fun c2 h2 h3 => by rw [← htk]; exact decide_eq_false (fun z => z (wo_far hOk n c2 (by omega) (by omega) h3).1)) (20 - (nC O).toNat) (by omega), show (nC O).toNat + (20 - (nC O).toNat) = 20 by omega])) hT (by first | assumption | (first | exact ⟨hM, hC0⟩ | exact ⟨hM6, hC6⟩))
                · skip
                  refine ev_ald0 46 dX12_endTerm_45 rfl ?_
                  refine ev_getfield 49 14 12 fl_X12_31_14 (tr40 hT) rfl dX12_endTerm_46 rfl ?_
                  refine ev_ild2 50 dX12_endTerm_49 rfl ?_
                  refine tv_iald 51 (tr52 hT) (n) (by omega) (by omega) (by omega) dX12_endTerm_50 rfl ?_
                  refine ev_ild3 52 dX12_endTerm_51 rfl ?_
                  refine tc_S2 55 dX12_endTerm_52 lks_X12_106 rfl (by first | decide | omega) (Nat.le_of_ble_eq_true rfl) (has_of (rm_tak hMc n (by rw [enc]; omega)) (by omega) (by rw [dtS_5]; rfl) : Pr g M_X12_has 0 _ h (some (.int (J (bi (tak (ctA O n) n c)))))) ?_
                  refine tb_if_eq 95 58 dX12_endTerm_55 (by decide) rfl (fun c55 => ?_) (fun c55 => ?_)
                  · skip
                    have hntk : ¬ tak (dtS (ctA O n) n c) n c = true := by unfold tak at c55 ⊢; rw [dtS_5]; rw [c55]; decide
                    refine ev_ald0 96 dX12_endTerm_95 rfl ?_
                    refine ev_getfield 99 14 14 fl_X12_37_14 (tr40 hT) rfl dX12_endTerm_96 rfl ?_
                    refine ev_ild2 100 dX12_endTerm_99 rfl ?_
                    refine ev_ild3 101 dX12_endTerm_100 rfl ?_
                    refine tc_S2 104 dX12_endTerm_101 lks_X12_110 rfl (by first | decide | omega) (Nat.le_of_ble_eq_true rfl) c_X12_at ?_
                    refine tj_iconst 105 dX12_endTerm_104 rfl ?_
                    refine tv_iast 106 hT (tv54 hT) (fun _ => rfl) ((20 * n + c)) (by omega) (by omega) (by omega) (by first | exact TR.rng hT _ _ _ | exact R31_of _ | exact bi_R _ | (constructor <;> omega)) dX12_endTerm_105 rfl (fun h hT => ?_)
                    first | (obtain ⟨X5, hX5⟩ : ∃ Z, Z = xs X1 54 0 (20 * n + c) (-1) := ⟨_, rfl⟩; rw [← hX5] at hT; have hM5 : RM (dtS (ctA O n) n (c + 1)) X5 := rm_dtC_t hMt (by omega) (by omega) hptk hX5; have hC5 : CZ X X5 0 := by rw [hX5]; exact hC1.st (by decide)) | (obtain ⟨X5, hX5⟩ : ∃ Z, Z = xs X4 54 0 (20 * n + c) (-1) := ⟨_, rfl⟩; rw [← hX5] at hT; have hM5 : RM (dtS (ctA O n) n (c + 1)) X5 := rm_dtC_n hMc (by omega) (by omega) hntk hX5; have hC5 : CZ X X5 0 := by rw [hX5]; exact hCc.st (by decide))
                    refine tj_inc3 109 dX12_endTerm_106 rfl (by decide) rfl ?_
                    refine ev_goto 37 dX12_endTerm_109 (by decide) ?_
                    exact ih37 (c + 1) _ _ _ _ (by omega) (by first | omega | assumption | omega) (by first | rfl | omega | (first | (show _ = _ + 0; omega) | (rw [cnt_s, c55]; simp; try omega))) (by first | rfl | omega | (first | (show _ = _ + 0; omega) | (rw [cnt_s, c55]; simp; try omega))) hT (by first | assumption | (first | exact ⟨hMk, hCk⟩ | exact ⟨hM5, hC5⟩))
                  · skip
                    have e7 := (dtS_o (ctA O n) n (c2 := c) c (Nat.le_refl c)).2
                    have e9 := (dtS_o (ctA O n) n (c2 := c) c (Nat.le_refl c)).1
                    have tm4 := rm_tm hMc n c (by omega) (by omega)
                    have tmR := wo_tm hOk n c (by omega) (by omega)
                    have htk3 := wo_tk3 hOk n c (by omega) (by omega) (of_decide_eq_true c55)
                    have ht0 := wo_tri hOk n c (by omega) (by omega)
                    have ht9 : 0 ≤ dtS (ctA O n) n c 9 n c ∧ dtS (ctA O n) n c 9 n c < 3 := by rw [e9]; omega
                    refine ev_ald0 59 dX12_endTerm_58 rfl ?_
                    refine ev_ild2 60 dX12_endTerm_59 rfl ?_
                    refine ev_ild3 61 dX12_endTerm_60 rfl ?_
                    refine ev_ald0 62 dX12_endTerm_61 rfl ?_
                    refine ev_getfield 65 14 14 fl_X12_37_14 (tr40 hT) rfl dX12_endTerm_62 rfl ?_
                    refine ev_ild2 66 dX12_endTerm_65 rfl ?_
                    refine ev_ild3 67 dX12_endTerm_66 rfl ?_
                    refine tc_S2 70 dX12_endTerm_67 lks_X12_110 rfl (by first | decide | omega) (Nat.le_of_ble_eq_true rfl) c_X12_at ?_
                    refine tv_iald 71 (tr54 hT) ((20 * n + c)) (by omega) (by omega) (by omega) dX12_endTerm_70 rfl ?_
                    refine tj_iconst 72 dX12_endTerm_71 rfl ?_
                    refine tj_icmp_ne 79 75 dX12_endTerm_72 (by decide) rfl (by first | exact TR.rng hT _ _ _ | exact R31_of _ | exact bi_R _ | (constructor <;> omega)) (by first | exact TR.rng hT _ _ _ | exact R31_of _ | exact bi_R _ | (constructor <;> omega)) (fun c72 => ?_) (fun c72 => ?_)
                    · skip
                      refine ev_ald0 80 dX12_endTerm_79 rfl ?_
                      refine ev_getfield 83 14 14 fl_X12_37_14 (tr40 hT) rfl dX12_endTerm_80 rfl ?_
                      refine ev_ild2 84 dX12_endTerm_83 rfl ?_
                      refine ev_ild3 85 dX12_endTerm_84 rfl ?_
                      refine tc_S2 88 dX12_endTerm_85 lks_X12_110 rfl (by first | decide | omega) (Nat.le_of_ble_eq_true rfl) c_X12_at ?_
                      refine tv_iald 89 (tr54 hT) ((20 * n + c)) (by omega) (by omega) (by omega) dX12_endTerm_88 rfl ?_
                      refine tmv_V3 92 14 dX12_endTerm_89 lkv_X12_190 (tr40 hT) rfl rfl (by first | decide | omega) (Nat.le_of_ble_eq_true rfl) (c_X12_tries hT hMc (s := n) (c := c) (by omega) (by omega) (by omega) ht9 (by first | exact TR.rng hT _ _ _ | exact R31_of _ | exact bi_R _ | (constructor <;> omega))) (fun h X1 hT hP89 => ?_)
                      have hptk : tak (dtS (ctA O n) n c) n c = true := by unfold tak at c55 ⊢; rw [dtS_5]; exact c55
                      have em : etm (dtS (ctA O n) n c) n c = _ := rfl
                      have hMt : RM (aa (dtS (ctA O n) n c) n c (etm (dtS (ctA O n) n c) n c)) X1 := rm_aa hMc (dtS_tri hOk (by omega) (by rw [ek0]; omega) (by omega)) (by omega) (by omega) ht9.2 (fun kk _ _ q => hP89.1 kk q.1 q.2) hP89.2.1 (fun j => by rw [hP89.2.2 j]; split; (unfold etm; first | (rw [if_pos (by omega)]; omega) | (rw [if_neg (by omega)]; done) | (split <;> omega)); rfl)
                      have hC1 : CZ X X1 0 := ⟨hCc.1.tr (fun kk q => hP89.1 kk (by omega) (by omega)), by rw [hP89.1 40 (by decide) (by decide)]; exact hCc.2⟩
                      refine tj_inc1 95 dX12_endTerm_92 rfl (by decide) rfl ?_
                      refine ev_ald0 96 dX12_endTerm_95 rfl ?_
                      refine ev_getfield 99 14 14 fl_X12_37_14 (tr40 hT) rfl dX12_endTerm_96 rfl ?_
                      refine ev_ild2 100 dX12_endTerm_99 rfl ?_
                      refine ev_ild3 101 dX12_endTerm_100 rfl ?_
                      refine tc_S2 104 dX12_endTerm_101 lks_X12_110 rfl (by first | decide | omega) (Nat.le_of_ble_eq_true rfl) c_X12_at ?_
                      refine tj_iconst 105 dX12_endTerm_104 rfl ?_
                      refine tv_iast 106 hT (tv54 hT) (fun _ => rfl) ((20 * n + c)) (by omega) (by omega) (by omega) (by first | exact TR.rng hT _ _ _ | exact R31_of _ | exact bi_R _ | (constructor <;> omega)) dX12_endTerm_105 rfl (fun h hT => ?_)
                      first | (obtain ⟨X5, hX5⟩ : ∃ Z, Z = xs X1 54 0 (20 * n + c) (-1) := ⟨_, rfl⟩; rw [← hX5] at hT; have hM5 : RM (dtS (ctA O n) n (c + 1)) X5 := rm_dtC_t hMt (by omega) (by omega) hptk hX5; have hC5 : CZ X X5 0 := by rw [hX5]; exact hC1.st (by decide)) | (obtain ⟨X5, hX5⟩ : ∃ Z, Z = xs X4 54 0 (20 * n + c) (-1) := ⟨_, rfl⟩; rw [← hX5] at hT; have hM5 : RM (dtS (ctA O n) n (c + 1)) X5 := rm_dtC_n hMc (by omega) (by omega) hntk hX5; have hC5 : CZ X X5 0 := by rw [hX5]; exact hCc.st (by decide))
                      refine tj_inc3 109 dX12_endTerm_106 rfl (by decide) rfl ?_
                      refine ev_goto 37 dX12_endTerm_109 (by decide) ?_
                      exact ih37 (c + 1) _ _ _ _ (by omega) (by first | omega | assumption | omega) (by first | rfl | omega | (first | (show _ = _ + 0; omega) | (rw [cnt_s, c55]; simp; try omega))) (by first | rfl | omega | (first | (show _ = _ + 0; omega) | (rw [cnt_s, c55]; simp; try omega))) hT (by first | assumption | (first | exact ⟨hMk, hCk⟩ | exact ⟨hM5, hC5⟩))
                    · skip
                      refine tj_iconst 76 dX12_endTerm_75 rfl ?_
                      refine ev_goto 89 dX12_endTerm_76 (by decide) ?_
                      refine tmv_V3 92 14 dX12_endTerm_89 lkv_X12_190 (tr40 hT) rfl rfl (by first | decide | omega) (Nat.le_of_ble_eq_true rfl) (c_X12_tries hT hMc (s := n) (c := c) (by omega) (by omega) (by omega) ht9 (by first | exact TR.rng hT _ _ _ | exact R31_of _ | exact bi_R _ | (constructor <;> omega))) (fun h X1 hT hP89 => ?_)
                      have hptk : tak (dtS (ctA O n) n c) n c = true := by unfold tak at c55 ⊢; rw [dtS_5]; exact c55
                      have em : etm (dtS (ctA O n) n c) n c = _ := rfl
                      have hMt : RM (aa (dtS (ctA O n) n c) n c (etm (dtS (ctA O n) n c) n c)) X1 := rm_aa hMc (dtS_tri hOk (by omega) (by rw [ek0]; omega) (by omega)) (by omega) (by omega) ht9.2 (fun kk _ _ q => hP89.1 kk q.1 q.2) hP89.2.1 (fun j => by rw [hP89.2.2 j]; split; (unfold etm; first | (rw [if_pos (by omega)]; omega) | (rw [if_neg (by omega)]; done) | (split <;> omega)); rfl)
                      have hC1 : CZ X X1 0 := ⟨hCc.1.tr (fun kk q => hP89.1 kk (by omega) (by omega)), by rw [hP89.1 40 (by decide) (by decide)]; exact hCc.2⟩
                      refine tj_inc1 95 dX12_endTerm_92 rfl (by decide) rfl ?_
                      refine ev_ald0 96 dX12_endTerm_95 rfl ?_
                      refine ev_getfield 99 14 14 fl_X12_37_14 (tr40 hT) rfl dX12_endTerm_96 rfl ?_
                      refine ev_ild2 100 dX12_endTerm_99 rfl ?_
                      refine ev_ild3 101 dX12_endTerm_100 rfl ?_
                      refine tc_S2 104 dX12_endTerm_101 lks_X12_110 rfl (by first | decide | omega) (Nat.le_of_ble_eq_true rfl) c_X12_at ?_
                      refine tj_iconst 105 dX12_endTerm_104 rfl ?_
                      refine tv_iast 106 hT (tv54 hT) (fun _ => rfl) ((20 * n + c)) (by omega) (by omega) (by omega) (by first | exact TR.rng hT _ _ _ | exact R31_of _ | exact bi_R _ | (constructor <;> omega)) dX12_endTerm_105 rfl (fun h hT => ?_)
                      first | (obtain ⟨X5, hX5⟩ : ∃ Z, Z = xs X1 54 0 (20 * n + c) (-1) := ⟨_, rfl⟩; rw [← hX5] at hT; have hM5 : RM (dtS (ctA O n) n (c + 1)) X5 := rm_dtC_t hMt (by omega) (by omega) hptk hX5; have hC5 : CZ X X5 0 := by rw [hX5]; exact hC1.st (by decide)) | (obtain ⟨X5, hX5⟩ : ∃ Z, Z = xs X4 54 0 (20 * n + c) (-1) := ⟨_, rfl⟩; rw [← hX5] at hT; have hM5 : RM (dtS (ctA O n) n (c + 1)) X5 := rm_dtC_n hMc (by omega) (by omega) hntk hX5; have hC5 : CZ X X5 0 := by rw [hX5]; exact hCc.st (by decide))
                      refine tj_inc3 109 dX12_endTerm_106 rfl (by decide) rfl ?_
                      refine ev_goto 37 dX12_endTerm_109 (by decide) ?_
                      exact ih37 (c + 1) _ _ _ _ (by omega) (by first | omega | assumption | omega) (by first | rfl | omega | (first | (show _ = _ + 0; omega) | (rw [cnt_s, c55]; simp; try omega))) (by first | rfl | omega | (first | (show _ = _ + 0; omega) | (rw [cnt_s, c55]; simp; try omega))) hT (by first | assumption | (first | exact ⟨hMk, hCk⟩ | exact ⟨hM5, hC5⟩))
            exact lp37 _ (0) _ _ _ _ (Nat.lt_succ_self _) (by first | omega | assumption | omega) (by first | rfl | omega | (first | (show _ = _ + 0; omega) | (rw [cnt_s, c55]; simp; try omega))) (by first | rfl | omega | (first | (show _ = _ + 0; omega) | (rw [cnt_s, c55]; simp; try omega))) hT (by first | assumption | (first | exact ⟨hMk, hCk⟩ | exact ⟨hM5, hC5⟩))
      exact lp27 _ (0) _ _ _ _ _ (Nat.lt_succ_self _) (by first | omega | assumption | omega) (by first | rfl | omega | (rw [htk, caN, show c = (nC O).toNat by omega, ← cnt_far (p := tak O n) (n := (nC O).toNat) (fun c2 h2 h3 => by rw [← htk]; exact decide_eq_false (fun z => z (wo_far hOk n c2 (by omega) (by omega) h3).1)) (20 - (nC O).toNat) (by omega), show (nC O).toNat + (20 - (nC O).toNat) = 20 by omega])) (by first | rfl | omega | (rw [htk, caN, show c = (nC O).toNat by omega, ← cnt_far (p := tak O n) (n := (nC O).toNat) (fun c2 h2 h3 => by rw [← htk]; exact decide_eq_false (fun z => z (wo_far hOk n c2 (by omega) (by omega) h3).1)) (20 - (nC O).toNat) (by omega), show (nC O).toNat + (20 - (nC O).toNat) = 20 by omega])) hT (by first | assumption | (first | exact ⟨hM, hC0⟩ | exact ⟨hM6, hC6⟩))
    · exact False.elim (by omega)
  · exact False.elim (by omega)
