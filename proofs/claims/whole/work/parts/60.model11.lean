/-! THE REFERENCE: days that pass -/
set_option maxHeartbeats 2000000 in
theorem rm_em {O X X' : XM} (h : RM O X) {c n : Nat} (hc : (c : Int) < nC O) (hx : ∀ k, 40 ≤ k → k ≤ 68 → k ≠ 48 → X' k = X k) (h48 : ∀ j, X' 48 0 j = if j = c then 0 else X 48 0 j) : RM (em O (4 + c) n) X' := by
  have k0 : (em O (4 + c) n) 0 = O 0 := em_k (by decide) (by decide)
  have k3 : (em O (4 + c) n) 3 = O 3 := em_k (by decide) (by decide)
  have k4 : (em O (4 + c) n) 4 = O 4 := em_k (by decide) (by decide)
  have k5 : (em O (4 + c) n) 5 = O 5 := em_k (by decide) (by decide)
  have k6 : (em O (4 + c) n) 6 = O 6 := em_k (by decide) (by decide)
  have k7 : (em O (4 + c) n) 7 = O 7 := em_k (by decide) (by decide)
  have k8 : (em O (4 + c) n) 8 = O 8 := em_k (by decide) (by decide)
  have k9 : (em O (4 + c) n) 9 = O 9 := em_k (by decide) (by decide)
  have k11 : (em O (4 + c) n) 11 = O 11 := em_k (by decide) (by decide)
  have k12 : (em O (4 + c) n) 12 = O 12 := em_k (by decide) (by decide)
  have k13 : (em O (4 + c) n) 13 = O 13 := em_k (by decide) (by decide)
  have k14 : (em O (4 + c) n) 14 = O 14 := em_k (by decide) (by decide)
  have k15 : (em O (4 + c) n) 15 = O 15 := em_k (by decide) (by decide)
  have k16 : (em O (4 + c) n) 16 = O 16 := em_k (by decide) (by decide)
  have l0 : (em O (4 + c) n) 1 0 2 = O 1 0 2 := by rw [em_ne (by omega)]
  have l1 : (em O (4 + c) n) 1 1 2 = O 1 1 2 := by rw [em_ne (by omega)]
  have l2 : (em O (4 + c) n) 1 2 2 = O 1 2 2 := by rw [em_ne (by omega)]
  have l3 : (em O (4 + c) n) 1 3 2 = O 1 3 2 := by rw [em_ne (by omega)]
  have nCe : nC (em O (4 + c) n) = nC O := l0
  have nSe : nS (em O (4 + c) n) = nS O := l1
  have nFe : nF (em O (4 + c) n) = nF O := l2
  have nRe : nR (em O (4 + c) n) = nR O := l3
  have x44 : X' 44 = X 44 := hx 44 (by decide) (by decide) (by decide)
  have x45 : X' 45 = X 45 := hx 45 (by decide) (by decide) (by decide)
  have x46 : X' 46 = X 46 := hx 46 (by decide) (by decide) (by decide)
  have x47 : X' 47 = X 47 := hx 47 (by decide) (by decide) (by decide)
  have x49 : X' 49 = X 49 := hx 49 (by decide) (by decide) (by decide)
  have x51 : X' 51 = X 51 := hx 51 (by decide) (by decide) (by decide)
  have x52 : X' 52 = X 52 := hx 52 (by decide) (by decide) (by decide)
  have x53 : X' 53 = X 53 := hx 53 (by decide) (by decide) (by decide)
  have x54 : X' 54 = X 54 := hx 54 (by decide) (by decide) (by decide)
  have x55 : X' 55 = X 55 := hx 55 (by decide) (by decide) (by decide)
  have x56 : X' 56 = X 56 := hx 56 (by decide) (by decide) (by decide)
  have x58 : X' 58 = X 58 := hx 58 (by decide) (by decide) (by decide)
  have x59 : X' 59 = X 59 := hx 59 (by decide) (by decide) (by decide)
  have x60 : X' 60 = X 60 := hx 60 (by decide) (by decide) (by decide)
  have x61 : X' 61 = X 61 := hx 61 (by decide) (by decide) (by decide)
  have x62 : X' 62 = X 62 := hx 62 (by decide) (by decide) (by decide)
  have x64 : X' 64 = X 64 := hx 64 (by decide) (by decide) (by decide)
  have x65 : X' 65 = X 65 := hx 65 (by decide) (by decide) (by decide)
  have x66 : X' 66 = X 66 := hx 66 (by decide) (by decide) (by decide)
  have x67 : X' 67 = X 67 := hx 67 (by decide) (by decide) (by decide)
  have x68 : X' 68 = X 68 := hx 68 (by decide) (by decide) (by decide)
  have x40 : X' 40 = X 40 := hx 40 (by decide) (by decide) (by decide)
  refine ⟨?_, ?_, ?_, ?_, ?_, ?_, ?_, ?_, ?_, ?_, ?_, ?_, ?_, ?_, ?_, ?_, ?_, ?_, ?_, ?_, ?_, ?_, ?_, ?_, ?_, ?_, ?_, ?_, ?_, ?_, ?_, ?_, ?_, trivial⟩
  · -- day
    simp only [nC, nS, nF, nR, k0, k3, k4, k5, k6, k7, k8, k9, k11, k12, k13, k14, k15, k16, l0, l1, l2, l3, x44, x45, x46, x47, x49, x51, x52, x53, x54, x55, x56, x58, x59, x60, x61, x62, x64, x65, x66, x67, x68, x40]; exact rm_day h
  · -- term
    simp only [nC, nS, nF, nR, k0, k3, k4, k5, k6, k7, k8, k9, k11, k12, k13, k14, k15, k16, l0, l1, l2, l3, x44, x45, x46, x47, x49, x51, x52, x53, x54, x55, x56, x58, x59, x60, x61, x62, x64, x65, x66, x67, x68, x40]; exact rm_term h
  · -- nC
    simp only [nC, nS, nF, nR, k0, k3, k4, k5, k6, k7, k8, k9, k11, k12, k13, k14, k15, k16, l0, l1, l2, l3, x44, x45, x46, x47, x49, x51, x52, x53, x54, x55, x56, x58, x59, x60, x61, x62, x64, x65, x66, x67, x68, x40]; exact rm_nC h
  · -- nS
    simp only [nC, nS, nF, nR, k0, k3, k4, k5, k6, k7, k8, k9, k11, k12, k13, k14, k15, k16, l0, l1, l2, l3, x44, x45, x46, x47, x49, x51, x52, x53, x54, x55, x56, x58, x59, x60, x61, x62, x64, x65, x66, x67, x68, x40]; exact rm_nS h
  · -- nF
    simp only [nC, nS, nF, nR, k0, k3, k4, k5, k6, k7, k8, k9, k11, k12, k13, k14, k15, k16, l0, l1, l2, l3, x44, x45, x46, x47, x49, x51, x52, x53, x54, x55, x56, x58, x59, x60, x61, x62, x64, x65, x66, x67, x68, x40]; exact rm_nF h
  · -- nR
    simp only [nC, nS, nF, nR, k0, k3, k4, k5, k6, k7, k8, k9, k11, k12, k13, k14, k15, k16, l0, l1, l2, l3, x44, x45, x46, x47, x49, x51, x52, x53, x54, x55, x56, x58, x59, x60, x61, x62, x64, x65, x66, x67, x68, x40]; exact rm_nR h
  · -- crd
    simp only [nC, nS, nF, nR, k0, k3, k4, k5, k6, k7, k8, k9, k11, k12, k13, k14, k15, k16, l0, l1, l2, l3, x44, x45, x46, x47, x49, x51, x52, x53, x54, x55, x56, x58, x59, x60, x61, x62, x64, x65, x66, x67, x68, x40]; exact rm_crd h
  · -- sea
    simp only [nC, nS, nF, nR, k0, k3, k4, k5, k6, k7, k8, k9, k11, k12, k13, k14, k15, k16, l0, l1, l2, l3, x44, x45, x46, x47, x49, x51, x52, x53, x54, x55, x56, x58, x59, x60, x61, x62, x64, x65, x66, x67, x68, x40]; exact rm_sea h
  · -- res
    simp only [nC, nS, nF, nR, k0, k3, k4, k5, k6, k7, k8, k9, k11, k12, k13, k14, k15, k16, l0, l1, l2, l3, x44, x45, x46, x47, x49, x51, x52, x53, x54, x55, x56, x58, x59, x60, x61, x62, x64, x65, x66, x67, x68, x40]; exact rm_res h
  · -- res0
    simp only [nC, nS, nF, nR, k0, k3, k4, k5, k6, k7, k8, k9, k11, k12, k13, k14, k15, k16, l0, l1, l2, l3, x44, x45, x46, x47, x49, x51, x52, x53, x54, x55, x56, x58, x59, x60, x61, x62, x64, x65, x66, x67, x68, x40]; exact rm_res0 h
  · -- req
    simp only [nC, nS, nF, nR, k0, k3, k4, k5, k6, k7, k8, k9, k11, k12, k13, k14, k15, k16, l0, l1, l2, l3, x44, x45, x46, x47, x49, x51, x52, x53, x54, x55, x56, x58, x59, x60, x61, x62, x64, x65, x66, x67, x68, x40]; exact rm_req h
  · -- wN
    intro c2 h2; rw [nCe] at h2; rw [h48, em_n]; by_cases e : c2 = c; (rw [if_pos e, if_pos e]); (rw [if_neg e, if_neg e]; exact rm_wN h c2 h2)
  · -- wN0
    intro c2 h2 h3; rw [nCe] at h2; rw [h48, if_neg (by omega)]; exact rm_wN0 h c2 h2 h3
  · -- wA
    intro c2 j h2 hj; rw [nCe] at h2; rw [em_n] at hj; by_cases e : c2 = c; (rw [if_pos e] at hj; omega); (rw [if_neg e] at hj; rw [x49, em_ne (by omega)]; exact rm_wA h c2 j h2 hj)
  · -- maj
    simp only [nC, nS, nF, nR, k0, k3, k4, k5, k6, k7, k8, k9, k11, k12, k13, k14, k15, k16, l0, l1, l2, l3, x44, x45, x46, x47, x49, x51, x52, x53, x54, x55, x56, x58, x59, x60, x61, x62, x64, x65, x66, x67, x68, x40]; exact rm_maj h
  · -- tak
    simp only [nC, nS, nF, nR, k0, k3, k4, k5, k6, k7, k8, k9, k11, k12, k13, k14, k15, k16, l0, l1, l2, l3, x44, x45, x46, x47, x49, x51, x52, x53, x54, x55, x56, x58, x59, x60, x61, x62, x64, x65, x66, x67, x68, x40]; exact rm_tak h
  · -- tak0
    simp only [nC, nS, nF, nR, k0, k3, k4, k5, k6, k7, k8, k9, k11, k12, k13, k14, k15, k16, l0, l1, l2, l3, x44, x45, x46, x47, x49, x51, x52, x53, x54, x55, x56, x58, x59, x60, x61, x62, x64, x65, x66, x67, x68, x40]; exact rm_tak0 h
  · -- mov
    simp only [nC, nS, nF, nR, k0, k3, k4, k5, k6, k7, k8, k9, k11, k12, k13, k14, k15, k16, l0, l1, l2, l3, x44, x45, x46, x47, x49, x51, x52, x53, x54, x55, x56, x58, x59, x60, x61, x62, x64, x65, x66, x67, x68, x40]; exact rm_mov h
  · -- mov0
    simp only [nC, nS, nF, nR, k0, k3, k4, k5, k6, k7, k8, k9, k11, k12, k13, k14, k15, k16, l0, l1, l2, l3, x44, x45, x46, x47, x49, x51, x52, x53, x54, x55, x56, x58, x59, x60, x61, x62, x64, x65, x66, x67, x68, x40]; exact rm_mov0 h
  · -- tm
    simp only [nC, nS, nF, nR, k0, k3, k4, k5, k6, k7, k8, k9, k11, k12, k13, k14, k15, k16, l0, l1, l2, l3, x44, x45, x46, x47, x49, x51, x52, x53, x54, x55, x56, x58, x59, x60, x61, x62, x64, x65, x66, x67, x68, x40]; exact rm_tm h
  · -- tm0
    simp only [nC, nS, nF, nR, k0, k3, k4, k5, k6, k7, k8, k9, k11, k12, k13, k14, k15, k16, l0, l1, l2, l3, x44, x45, x46, x47, x49, x51, x52, x53, x54, x55, x56, x58, x59, x60, x61, x62, x64, x65, x66, x67, x68, x40]; exact rm_tm0 h
  · -- tri
    simp only [nC, nS, nF, nR, k0, k3, k4, k5, k6, k7, k8, k9, k11, k12, k13, k14, k15, k16, l0, l1, l2, l3, x44, x45, x46, x47, x49, x51, x52, x53, x54, x55, x56, x58, x59, x60, x61, x62, x64, x65, x66, x67, x68, x40]; exact rm_tri h
  · -- tri0
    simp only [nC, nS, nF, nR, k0, k3, k4, k5, k6, k7, k8, k9, k11, k12, k13, k14, k15, k16, l0, l1, l2, l3, x44, x45, x46, x47, x49, x51, x52, x53, x54, x55, x56, x58, x59, x60, x61, x62, x64, x65, x66, x67, x68, x40]; exact rm_tri0 h
  · -- trd
    simp only [nC, nS, nF, nR, k0, k3, k4, k5, k6, k7, k8, k9, k11, k12, k13, k14, k15, k16, l0, l1, l2, l3, x44, x45, x46, x47, x49, x51, x52, x53, x54, x55, x56, x58, x59, x60, x61, x62, x64, x65, x66, x67, x68, x40]; exact rm_trd h
  · -- dep
    simp only [nC, nS, nF, nR, k0, k3, k4, k5, k6, k7, k8, k9, k11, k12, k13, k14, k15, k16, l0, l1, l2, l3, x44, x45, x46, x47, x49, x51, x52, x53, x54, x55, x56, x58, x59, x60, x61, x62, x64, x65, x66, x67, x68, x40]; exact rm_dep h
  · -- f0
    simp only [nC, nS, nF, nR, k0, k3, k4, k5, k6, k7, k8, k9, k11, k12, k13, k14, k15, k16, l0, l1, l2, l3, x44, x45, x46, x47, x49, x51, x52, x53, x54, x55, x56, x58, x59, x60, x61, x62, x64, x65, x66, x67, x68, x40]; exact rm_f0 h
  · -- f1
    simp only [nC, nS, nF, nR, k0, k3, k4, k5, k6, k7, k8, k9, k11, k12, k13, k14, k15, k16, l0, l1, l2, l3, x44, x45, x46, x47, x49, x51, x52, x53, x54, x55, x56, x58, x59, x60, x61, x62, x64, x65, x66, x67, x68, x40]; exact rm_f1 h
  · -- f2
    simp only [nC, nS, nF, nR, k0, k3, k4, k5, k6, k7, k8, k9, k11, k12, k13, k14, k15, k16, l0, l1, l2, l3, x44, x45, x46, x47, x49, x51, x52, x53, x54, x55, x56, x58, x59, x60, x61, x62, x64, x65, x66, x67, x68, x40]; exact rm_f2 h
  · -- f3
    simp only [nC, nS, nF, nR, k0, k3, k4, k5, k6, k7, k8, k9, k11, k12, k13, k14, k15, k16, l0, l1, l2, l3, x44, x45, x46, x47, x49, x51, x52, x53, x54, x55, x56, x58, x59, x60, x61, x62, x64, x65, x66, x67, x68, x40]; exact rm_f3 h
  · -- f4
    simp only [nC, nS, nF, nR, k0, k3, k4, k5, k6, k7, k8, k9, k11, k12, k13, k14, k15, k16, l0, l1, l2, l3, x44, x45, x46, x47, x49, x51, x52, x53, x54, x55, x56, x58, x59, x60, x61, x62, x64, x65, x66, x67, x68, x40]; exact rm_f4 h
  · -- rul
    simp only [nC, nS, nF, nR, k0, k3, k4, k5, k6, k7, k8, k9, k11, k12, k13, k14, k15, k16, l0, l1, l2, l3, x44, x45, x46, x47, x49, x51, x52, x53, x54, x55, x56, x58, x59, x60, x61, x62, x64, x65, x66, x67, x68, x40]; exact rm_rul h
  · -- alw
    simp only [nC, nS, nF, nR, k0, k3, k4, k5, k6, k7, k8, k9, k11, k12, k13, k14, k15, k16, l0, l1, l2, l3, x44, x45, x46, x47, x49, x51, x52, x53, x54, x55, x56, x58, x59, x60, x61, x62, x64, x65, x66, x67, x68, x40]; exact rm_alw h
  · -- deg
    simp only [nC, nS, nF, nR, k0, k3, k4, k5, k6, k7, k8, k9, k11, k12, k13, k14, k15, k16, l0, l1, l2, l3, x44, x45, x46, x47, x49, x51, x52, x53, x54, x55, x56, x58, x59, x60, x61, x62, x64, x65, x66, x67, x68, x40]; exact rm_deg h
theorem emA_x (X : XM) (j : Nat) (v : Int) : ∀ n, emA (xs X 0 0 j v) n = xs (emA X n) 0 0 j v
  | 0 => rfl
  | n + 1 => by
    rw [emA, emA_x X j v n, em_x]
    rfl
set_option maxRecDepth 100000 in
set_option maxHeartbeats 4000000 in
theorem c_X12_pass_x1 {g : Gt} {α : AL} {ν : Nat → Nat → Bool} {X : XM} {h : AH} (hT : TR g α ν X h) {O : XM} (hO : WO O) (hM : RM O X) {a0 : Int} (ha0 : R31 a0) (hm : a0 < 1) : Mu g α ν M_X12_pass 27 [.ref (α 40 0), .int (J a0)] h (some (.int (J (0)))) (fun X' => X' = xs X 40 0 0 1) := by
  refine mu_of rfl rfl (ls := [some (.ref (α 40 0)), some (.int (J a0)), none, none]) rfl (Nat.le_of_ble_eq_true rfl) ?_
  show Ev g M_X12_pass 27 0 [some (.ref (α 40 0)), some (.int (J a0)), none, none] [] h 0 0 (UQ g α ν (some (.int (J (0)))) (fun X' => X' = xs X 40 0 0 1))
  have q0 := rm_nC hM
  have q1 := wo_nC hO
  have q2 := rm_nS hM
  have q3 := wo_nS hO
  refine ev_ald0 1 dX12_pass_0 rfl ?_
  refine ev_ild1 2 dX12_pass_1 rfl ?_
  refine tj_iconst 3 dX12_pass_2 rfl ?_
  refine tj_icmp_ge 10 6 dX12_pass_3 (by decide) rfl (by first | exact TR.rng hT _ _ _ | exact R31_of _ | exact bi_R _ | (constructor <;> omega)) (by first | exact TR.rng hT _ _ _ | exact R31_of _ | exact bi_R _ | (constructor <;> omega)) (fun c3 => ?_) (fun c3 => ?_)
  · exact False.elim (by omega)
  · skip
    refine tj_iconst 7 dX12_pass_6 rfl ?_
    refine ev_goto 26 dX12_pass_7 (by decide) ?_
    refine tm_V1 29 14 dX12_pass_26 lkv_X12_144 (tr40 hT) rfl rfl (by first | decide | omega) (Nat.le_of_ble_eq_true rfl) (goes_n hT (by omega)) (fun h X1 hT hP26 => ?_)
    have hM1 := hM
    have hM : RM O X1 := by rw [hP26]; exact rm_th hM1 _
    have q0 := rm_nC hM
    have q2 := rm_nS hM
    refine tj_if_ne 34 32 dX12_pass_29 (by decide) rfl (by first | exact TR.rng hT _ _ _ | exact R31_of _ | exact bi_R _ | (constructor <;> omega)) (fun c29 => ?_) (fun c29 => ?_)
    · exact False.elim (by omega)
    · skip
      refine tj_iconst 33 dX12_pass_32 rfl ?_
      exact ev_ireturn (uq_i (by first | rfl | omega | exact bi_dt (by omega) | exact bi_df (by omega) | (skip)) hT (by assumption)) rfl dX12_pass_33
set_option maxRecDepth 100000 in
set_option maxHeartbeats 4000000 in
theorem c_X12_pass_x2 {g : Gt} {α : AL} {ν : Nat → Nat → Bool} {X : XM} {h : AH} (hT : TR g α ν X h) {O : XM} (hO : WO O) (hM : RM O X) {a0 : Int} (ha0 : R31 a0) (h1 : 1 ≤ a0) (hm : 30 - O 0 0 5 < a0) : Mu g α ν M_X12_pass 27 [.ref (α 40 0), .int (J a0)] h (some (.int (J (0)))) (fun X' => X' = xs X 40 0 0 2) := by
  refine mu_of rfl rfl (ls := [some (.ref (α 40 0)), some (.int (J a0)), none, none]) rfl (Nat.le_of_ble_eq_true rfl) ?_
  show Ev g M_X12_pass 27 0 [some (.ref (α 40 0)), some (.int (J a0)), none, none] [] h 0 0 (UQ g α ν (some (.int (J (0)))) (fun X' => X' = xs X 40 0 0 2))
  have q0 := rm_nC hM
  have q1 := wo_nC hO
  have q2 := rm_nS hM
  have q3 := wo_nS hO
  have qd := rm_day hM
  have qd2 := wo_day hO
  refine ev_ald0 1 dX12_pass_0 rfl ?_
  refine ev_ild1 2 dX12_pass_1 rfl ?_
  refine tj_iconst 3 dX12_pass_2 rfl ?_
  refine tj_icmp_ge 10 6 dX12_pass_3 (by decide) rfl (by first | exact TR.rng hT _ _ _ | exact R31_of _ | exact bi_R _ | (constructor <;> omega)) (by first | exact TR.rng hT _ _ _ | exact R31_of _ | exact bi_R _ | (constructor <;> omega)) (fun c3 => ?_) (fun c3 => ?_)
  · skip
    refine ev_ild1 11 dX12_pass_10 rfl ?_
    refine tj_bipush 13 dX12_pass_11 (by decide) rfl ?_
    refine ev_ald0 14 dX12_pass_13 rfl ?_
    refine ev_getfield 17 14 1 fl_X12_164_14 (tr40 hT) rfl dX12_pass_14 rfl ?_
    refine tj_isub 18 dX12_pass_17 rfl ?_
    refine tj_icmp_le 25 21 dX12_pass_18 (by decide) rfl (by first | exact TR.rng hT _ _ _ | exact R31_of _ | exact bi_R _ | (constructor <;> omega)) (by first | exact TR.rng hT _ _ _ | exact R31_of _ | exact bi_R _ | (constructor <;> omega)) (fun c18 => ?_) (fun c18 => ?_)
    · exact False.elim (by omega)
    · skip
      refine tj_iconst 22 dX12_pass_21 rfl ?_
      refine ev_goto 26 dX12_pass_22 (by decide) ?_
      refine tm_V1 29 14 dX12_pass_26 lkv_X12_144 (tr40 hT) rfl rfl (by first | decide | omega) (Nat.le_of_ble_eq_true rfl) (goes_n hT (by omega)) (fun h X1 hT hP26 => ?_)
      have hM1 := hM
      have hM : RM O X1 := by rw [hP26]; exact rm_th hM1 _
      have q0 := rm_nC hM
      have q2 := rm_nS hM
      refine tj_if_ne 34 32 dX12_pass_29 (by decide) rfl (by first | exact TR.rng hT _ _ _ | exact R31_of _ | exact bi_R _ | (constructor <;> omega)) (fun c29 => ?_) (fun c29 => ?_)
      · exact False.elim (by omega)
      · skip
        refine tj_iconst 33 dX12_pass_32 rfl ?_
        exact ev_ireturn (uq_i (by first | rfl | omega | exact bi_dt (by omega) | exact bi_df (by omega) | (skip)) hT (by assumption)) rfl dX12_pass_33
  · exact False.elim (by omega)
set_option maxRecDepth 100000 in
set_option maxHeartbeats 4000000 in
theorem c_X12_pass_ok {g : Gt} {α : AL} {ν : Nat → Nat → Bool} {X : XM} {h : AH} (hT : TR g α ν X h) {O : XM} (hO : WO O) (hM : RM O X) {n : Nat} (h1 : 1 ≤ n) (hm : (n : Int) ≤ 30 - O 0 0 5) : Mu g α ν M_X12_pass 27 [.ref (α 40 0), .int (J (n : Int))] h (some (.int (J (O 0 0 5 + n)))) (fun X' => RM (psN O n) X' ∧ CZ X X' 0) := by
  refine mu_of rfl rfl (ls := [some (.ref (α 40 0)), some (.int (J (n : Int))), none, none]) rfl (Nat.le_of_ble_eq_true rfl) ?_
  show Ev g M_X12_pass 27 0 [some (.ref (α 40 0)), some (.int (J (n : Int))), none, none] [] h 0 0 (UQ g α ν (some (.int (J (O 0 0 5 + n)))) (fun X' => RM (psN O n) X' ∧ CZ X X' 0))
  have q0 := rm_nC hM
  have q1 := wo_nC hO
  have q2 := rm_nS hM
  have q3 := wo_nS hO
  have qd := rm_day hM
  have qd2 := wo_day hO
  refine ev_ald0 1 dX12_pass_0 rfl ?_
  refine ev_ild1 2 dX12_pass_1 rfl ?_
  refine tj_iconst 3 dX12_pass_2 rfl ?_
  refine tj_icmp_ge 10 6 dX12_pass_3 (by decide) rfl (by first | exact TR.rng hT _ _ _ | exact R31_of _ | exact bi_R _ | (constructor <;> omega)) (by first | exact TR.rng hT _ _ _ | exact R31_of _ | exact bi_R _ | (constructor <;> omega)) (fun c3 => ?_) (fun c3 => ?_)
  · skip
    refine ev_ild1 11 dX12_pass_10 rfl ?_
    refine tj_bipush 13 dX12_pass_11 (by decide) rfl ?_
    refine ev_ald0 14 dX12_pass_13 rfl ?_
    refine ev_getfield 17 14 1 fl_X12_164_14 (tr40 hT) rfl dX12_pass_14 rfl ?_
    refine tj_isub 18 dX12_pass_17 rfl ?_
    refine tj_icmp_le 25 21 dX12_pass_18 (by decide) rfl (by first | exact TR.rng hT _ _ _ | exact R31_of _ | exact bi_R _ | (constructor <;> omega)) (by first | exact TR.rng hT _ _ _ | exact R31_of _ | exact bi_R _ | (constructor <;> omega)) (fun c18 => ?_) (fun c18 => ?_)
    · skip
      refine tj_iconst 26 dX12_pass_25 rfl ?_
      refine tm_V1 29 14 dX12_pass_26 lkv_X12_144 (tr40 hT) rfl rfl (by first | decide | omega) (Nat.le_of_ble_eq_true rfl) (goes_0 hT) (fun h X1 hT hP26 => ?_)
      have hM1 := hM
      have hM : RM O X1 := by rw [hP26]; exact rm_th hM1 _
      have q0 := rm_nC hM
      have q2 := rm_nS hM
      have hC0 : CZ X X1 0 := by rw [hP26]; exact CZ.go X 0
      refine tj_if_ne 34 32 dX12_pass_29 (by decide) rfl (by first | exact TR.rng hT _ _ _ | exact R31_of _ | exact bi_R _ | (constructor <;> omega)) (fun c29 => ?_) (fun c29 => ?_)
      · skip
        refine tj_iconst 35 dX12_pass_34 rfl ?_
        refine ev_ist2 36 dX12_pass_35 rfl (by decide) rfl ?_
        have lp36 : ∀ (n36 : Nat) (k : Nat) (z2 : Int) (o3 : Option Value) (h : AH) (X2 : XM), 31 - k < n36 → (k ≤ n) → z2 = (k : Int) → TR g α ν X2 h → (RM (psN O k) X2 ∧ CZ X X2 0) → Ev g M_X12_pass 27 36 [some (.ref (α 40 0)), some (.int (J (n : Int))), some (.int (J z2)), o3] [] h 0 0 (UQ g α ν (some (.int (J (O 0 0 5 + n)))) (fun X' => RM (psN O n) X' ∧ CZ X X' 0)) := by
          intro n36
          induction n36 with
          | zero => intro k z2 o3 h X2 hm; exact absurd hm (Nat.not_lt_zero _)
          | succ n36 ih36 =>
            intro k z2 o3 h X2 hm36 hk e2 hT hI
            subst e2
            obtain ⟨hMk, hCk⟩ := hI
            have hOk := wo_psN hO k (by omega)
            have ed := rm_day hMk
            rw [psN_day] at ed
            have enk : nC (psN O k) = nC O := psN_l O (by decide) k
            have q0k := rm_nC hMk
            refine ev_ild2 37 dX12_pass_36 rfl ?_
            refine ev_ild1 38 dX12_pass_37 rfl ?_
            refine tj_icmp_ge 93 41 dX12_pass_38 (by decide) rfl (by first | exact TR.rng hT _ _ _ | exact R31_of _ | exact bi_R _ | (constructor <;> omega)) (by first | exact TR.rng hT _ _ _ | exact R31_of _ | exact bi_R _ | (constructor <;> omega)) (fun c38 => ?_) (fun c38 => ?_)
            · skip
              refine ev_ald0 94 dX12_pass_93 rfl ?_
              refine ev_getfield 97 14 1 fl_X12_164_14 (tr40 hT) rfl dX12_pass_94 rfl ?_
              exact ev_ireturn (uq_i (by first | rfl | omega | exact bi_dt (by omega) | exact bi_df (by omega) | (rw [ed, show k = n by omega])) hT (by rw [show n = k by omega]; exact ⟨hMk, hCk⟩)) rfl dX12_pass_97
            · skip
              refine ev_ald0 42 dX12_pass_41 rfl ?_
              refine ev_dup 43 dX12_pass_42 rfl rfl ?_
              refine ev_getfield 46 14 1 fl_X12_164_14 (tr40 hT) rfl dX12_pass_43 rfl ?_
              refine tj_iconst 47 dX12_pass_46 rfl ?_
              refine tj_iadd 48 dX12_pass_47 rfl ?_
              refine tv_puti 51 1 .int fl_X12_164_14 fp_14_1 hT (tv40 hT) (fun _ => rfl) rfl (Nat.le_of_ble_eq_true rfl) rfl rfl (by first | exact TR.rng hT _ _ _ | exact R31_of _ | exact bi_R _ | (constructor <;> omega)) dX12_pass_48 rfl (fun h hT => ?_)
              obtain ⟨X3, hX3⟩ : ∃ Z, Z = xs X2 40 0 1 (X2 40 0 1 + 1) := ⟨_, rfl⟩
              rw [← hX3] at hT
              have hM3 : RM (xs (psN O k) 0 0 5 (O 0 0 5 + k + 1)) X3 := by rw [hX3, ed]; exact rm_dy hMk (fun k _ _ q => xs_nk q) (fun j => xs_at _ _ _ _ _ _)
              have hC3 : CZ X X3 0 := by rw [hX3]; exact hCk.x4 (by decide)
              refine tj_iconst 52 dX12_pass_51 rfl ?_
              refine ev_ist3 53 dX12_pass_52 rfl (by decide) rfl ?_
              have lp53 : ∀ (n53 : Nat) (c : Nat) (z3 : Int)  (h : AH) (X4 : XM), 21 - c < n53 → ((c : Int) ≤ nC O) → (c = 0 ∨ O 0 0 5 + k + 1 = 6) → z3 = (c : Int) → TR g α ν X4 h → (RM (xs (emA (psN O k) c) 0 0 5 (O 0 0 5 + k + 1)) X4 ∧ CZ X X4 0) → Ev g M_X12_pass 27 53 [some (.ref (α 40 0)), some (.int (J (n : Int))), some (.int (J (k : Int))), some (.int (J z3))] [] h 0 0 (UQ g α ν (some (.int (J (O 0 0 5 + n)))) (fun X' => RM (psN O n) X' ∧ CZ X X' 0)) := by
                intro n53
                induction n53 with
                | zero => intro c z3 h X4 hm; exact absurd hm (Nat.not_lt_zero _)
                | succ n53 ih53 =>
                  intro c z3 h X4 hm53 hc hc6 e3 hT hI
                  subst e3
                  obtain ⟨hMc, hCc⟩ := hI
                  have edc := rm_day hMc
                  rw [xs_at, if_pos rfl] at edc
                  have q0c := rm_nC hMc
                  have enc : nC (xs (emA (psN O k) c) 0 0 5 (O 0 0 5 + k + 1)) = nC O := by unfold nC; rw [xs_nk (by decide), emA_l _ (by decide)]; exact psN_l O (by decide) k
                  refine ev_ild3 54 dX12_pass_53 rfl ?_
                  refine ev_ald0 55 dX12_pass_54 rfl ?_
                  refine ev_getfield 58 14 3 fl_X12_93_14 (tr40 hT) rfl dX12_pass_55 rfl ?_
                  refine tj_icmp_ge 83 61 dX12_pass_58 (by decide) rfl (by first | exact TR.rng hT _ _ _ | exact R31_of _ | exact bi_R _ | (constructor <;> omega)) (by first | exact TR.rng hT _ _ _ | exact R31_of _ | exact bi_R _ | (constructor <;> omega)) (fun c58 => ?_) (fun c58 => ?_)
                  · skip
                    have hOB := wo_dyB hOk (by rw [psN_day]; omega)
                    have hMB : RM (dyB (psN O k)) X4 := by unfold dyB; rw [psN_day]; by_cases e6 : O 0 0 5 + k + 1 = 6; (rw [if_pos e6, show (nC (psN O k)).toNat = c by omega]; exact hMc); (rw [if_neg e6]; have e0 : c = 0 := (by omega); subst e0; exact hMc)
                    have hCn := hCc
                    refine ev_ald0 84 dX12_pass_83 rfl ?_
                    refine tmv_V0 87 14 dX12_pass_84 lkv_X12_193 (tr40 hT) rfl rfl (by first | decide | omega) (Nat.le_of_ble_eq_true rfl) (c_X12_givesOut hT hOB hMB) (fun h X1 hT hP84 => ?_)
                    refine tj_inc2 90 dX12_pass_87 rfl (by decide) rfl ?_
                    refine ev_goto 36 dX12_pass_90 (by decide) ?_
                    exact ih36 (k + 1) _ _ _ _ (by omega) (by first | omega | assumption | omega) (by first | rfl | omega | (omega)) hT (by first | assumption | (first | exact ⟨hM, hC0⟩ | exact ⟨hP84.1, hCn.fm hP84.2⟩))
                  · skip
                    refine ev_ald0 62 dX12_pass_61 rfl ?_
                    refine ev_getfield 65 14 1 fl_X12_164_14 (tr40 hT) rfl dX12_pass_62 rfl ?_
                    refine tj_bipush 67 dX12_pass_65 (by decide) rfl ?_
                    refine tj_icmp_ne 83 70 dX12_pass_67 (by decide) rfl (by first | exact TR.rng hT _ _ _ | exact R31_of _ | exact bi_R _ | (constructor <;> omega)) (by first | exact TR.rng hT _ _ _ | exact R31_of _ | exact bi_R _ | (constructor <;> omega)) (fun c67 => ?_) (fun c67 => ?_)
                    · skip
                      have hOB := wo_dyB hOk (by rw [psN_day]; omega)
                      have hMB : RM (dyB (psN O k)) X4 := by unfold dyB; rw [psN_day, if_neg (by omega)]; have e0 : c = 0 := (by omega); subst e0; exact hMc
                      have hCn := hCc
                      refine ev_ald0 84 dX12_pass_83 rfl ?_
                      refine tmv_V0 87 14 dX12_pass_84 lkv_X12_193 (tr40 hT) rfl rfl (by first | decide | omega) (Nat.le_of_ble_eq_true rfl) (c_X12_givesOut hT hOB hMB) (fun h X1 hT hP84 => ?_)
                      refine tj_inc2 90 dX12_pass_87 rfl (by decide) rfl ?_
                      refine ev_goto 36 dX12_pass_90 (by decide) ?_
                      exact ih36 (k + 1) _ _ _ _ (by omega) (by first | omega | assumption | omega) (by first | rfl | omega | (omega)) hT (by first | assumption | (first | exact ⟨hM, hC0⟩ | exact ⟨hP84.1, hCn.fm hP84.2⟩))
                    · skip
                      refine ev_ald0 71 dX12_pass_70 rfl ?_
                      refine ev_getfield 74 14 8 fl_X12_22_14 (tr40 hT) rfl dX12_pass_71 rfl ?_
                      refine ev_ild3 75 dX12_pass_74 rfl ?_
                      refine tj_iconst 76 dX12_pass_75 rfl ?_
                      refine tv_iast 77 hT (tv48 hT) (fun _ => rfl) (c) (by omega) (by omega) (by omega) (by first | exact TR.rng hT _ _ _ | exact R31_of _ | exact bi_R _ | (constructor <;> omega)) dX12_pass_76 rfl (fun h hT => ?_)
                      obtain ⟨X5, hX5⟩ : ∃ Z, Z = xs X4 48 0 c 0 := ⟨_, rfl⟩
                      rw [← hX5] at hT
                      have hM5 : RM (xs (emA (psN O k) (c + 1)) 0 0 5 (O 0 0 5 + k + 1)) X5 := by rw [hX5, emA, ← em_x]; exact rm_em hMc (by omega) (fun k _ _ q => xs_nk q) (fun j => xs_at _ _ _ _ _ _)
                      have hC5 : CZ X X5 0 := by rw [hX5]; exact hCc.st (by decide)
                      refine tj_inc3 80 dX12_pass_77 rfl (by decide) rfl ?_
                      refine ev_goto 53 dX12_pass_80 (by decide) ?_
                      exact ih53 (c + 1) _ _ _ (by omega) (by first | omega | assumption | first | exact Or.inl rfl | exact Or.inr (by omega)) (by first | omega | assumption | first | exact Or.inl rfl | exact Or.inr (by omega)) (by first | rfl | omega | (omega)) hT (by first | assumption | (first | exact ⟨hM3, hC3⟩ | exact ⟨hM5, hC5⟩))
              exact lp53 _ (0) _ _ _ (Nat.lt_succ_self _) (by first | omega | assumption | first | exact Or.inl rfl | exact Or.inr (by omega)) (by first | omega | assumption | first | exact Or.inl rfl | exact Or.inr (by omega)) (by first | rfl | omega | (omega)) hT (by first | assumption | (first | exact ⟨hM3, hC3⟩ | exact ⟨hM5, hC5⟩))
        exact lp36 _ (0) _ _ _ _ (Nat.lt_succ_self _) (by first | omega | assumption | omega) (by first | rfl | omega | (omega)) hT (by first | assumption | (first | exact ⟨hM, hC0⟩ | exact ⟨hP84.1, hCn.fm hP84.2⟩))
      · exact False.elim (by omega)
    · exact False.elim (by omega)
  · exact False.elim (by omega)
