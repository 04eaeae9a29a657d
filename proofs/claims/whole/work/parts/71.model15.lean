/-! THE REFERENCE: courses end, drops, swaps -/
theorem not_all : ∀ c : Fin 20, J ((1 <<< c.val : Nat) : Int) ^^^ J (-1) = J ((4294967295 - 1 <<< c.val : Nat) : Int) := by decide +kernel
theorem J_not {c : Nat} (hc : c < 20) : J ((1 <<< c : Nat) : Int) ^^^ J (-1) = J ((4294967295 - 1 <<< c : Nat) : Int) := not_all ⟨c, hc⟩
theorem tb_all : ∀ c j : Fin 20, Nat.testBit (4294967295 - 1 <<< c.val) j.val = !decide (j.val = c.val) := by decide +kernel
theorem tb_not {c j : Nat} (hc : c < 20) (hj : j < 20) : Nat.testBit (4294967295 - 1 <<< c) j = !decide (j = c) := tb_all ⟨c, hc⟩ ⟨j, hj⟩
theorem bitsE_off {z : Int} {f : Nat → Int} (h : bitsE z f) {c : Nat} (hc : c < 20) {f2 : Nat → Int} (h1 : f2 c = 0) (h2 : ∀ j, j ≠ c → f2 j = f j) : bitsE ((z.toNat &&& (4294967295 - 1 <<< c) : Nat) : Int) f2 := by
  have q : z.toNat &&& (4294967295 - 1 <<< c) ≤ z.toNat := Nat.and_le_left
  have q1 := h.1
  have q2 := h.2.1
  refine bitsE_clr h hc ⟨by omega, by omega⟩ (fun j hj => ?_) h1 h2
  rw [Int.toNat_natCast, Nat.testBit_and, tb_not hc hj]
set_option maxHeartbeats 2000000 in
theorem rm_rt {O X X' : XM} (h : RM O X) {O2 : XM} (hk : ∀ k, k ≠ 5 → O2 k = O k) {s : Nat} (h5 : ∀ s2, s2 ≠ s → O2 5 s2 = O 5 s2) (hs : (s : Int) < nS O) (hx : ∀ k, 40 ≤ k → k ≤ 68 → k ≠ 52 → X' k = X k) (h52 : ∀ j, j ≠ s → X' 52 0 j = X 52 0 j) (hb : bitsE (X' 52 0 s) (O2 5 s)) : RM (O2) X' := by
  have k0 : (O2) 0 = O 0 := hk _ (by decide)
  have k3 : (O2) 3 = O 3 := hk _ (by decide)
  have k4 : (O2) 4 = O 4 := hk _ (by decide)
  have k6 : (O2) 6 = O 6 := hk _ (by decide)
  have k7 : (O2) 7 = O 7 := hk _ (by decide)
  have k8 : (O2) 8 = O 8 := hk _ (by decide)
  have k9 : (O2) 9 = O 9 := hk _ (by decide)
  have k11 : (O2) 11 = O 11 := hk _ (by decide)
  have k12 : (O2) 12 = O 12 := hk _ (by decide)
  have k13 : (O2) 13 = O 13 := hk _ (by decide)
  have k14 : (O2) 14 = O 14 := hk _ (by decide)
  have k15 : (O2) 15 = O 15 := hk _ (by decide)
  have k16 : (O2) 16 = O 16 := hk _ (by decide)
  have l0 : (O2) 1 0 2 = O 1 0 2 := by rw [hk 1 (by decide)]
  have l1 : (O2) 1 1 2 = O 1 1 2 := by rw [hk 1 (by decide)]
  have l2 : (O2) 1 2 2 = O 1 2 2 := by rw [hk 1 (by decide)]
  have l3 : (O2) 1 3 2 = O 1 3 2 := by rw [hk 1 (by decide)]
  have lk1 : (O2) 1 = O 1 := hk _ (by decide)
  have lk2 : (O2) 2 = O 2 := hk _ (by decide)
  have nCe : nC (O2) = nC O := l0
  have nSe : nS (O2) = nS O := l1
  have nFe : nF (O2) = nF O := l2
  have nRe : nR (O2) = nR O := l3
  have x44 : X' 44 = X 44 := hx 44 (by decide) (by decide) (by decide)
  have x45 : X' 45 = X 45 := hx 45 (by decide) (by decide) (by decide)
  have x46 : X' 46 = X 46 := hx 46 (by decide) (by decide) (by decide)
  have x47 : X' 47 = X 47 := hx 47 (by decide) (by decide) (by decide)
  have x48 : X' 48 = X 48 := hx 48 (by decide) (by decide) (by decide)
  have x49 : X' 49 = X 49 := hx 49 (by decide) (by decide) (by decide)
  have x51 : X' 51 = X 51 := hx 51 (by decide) (by decide) (by decide)
  have x53 : X' 53 = X 53 := hx 53 (by decide) (by decide) (by decide)
  have x54 : X' 54 = X 54 := hx 54 (by decide) (by decide) (by decide)
  have x55 : X' 55 = X 55 := hx 55 (by decide) (by decide) (by decide)
  have x56 : X' 56 = X 56 := hx 56 (by decide) (by decide) (by decide)
  have x58 : X' 58 = X 58 := hx 58 (by decide) (by decide) (by decide)
  have x59 : X' 59 = X 59 := hx 59 (by decide) (by decide) (by decide)
  have x60 : X' 60 = X 60 := hx 60 (by decide) (by decide) (by decide)
  have x61 : X' 61 = X 61 := hx 61 (by decide) (by decide) (by decide)
  have x62 : X' 62 = X 62 := hx 62 (by decide) (by decide) (by decide)
  have x64 : X' 64 = X 64 := hx 64 (by decide) (by decide) (by decide)
  have x65 : X' 65 = X 65 := hx 65 (by decide) (by decide) (by decide)
  have x66 : X' 66 = X 66 := hx 66 (by decide) (by decide) (by decide)
  have x67 : X' 67 = X 67 := hx 67 (by decide) (by decide) (by decide)
  have x68 : X' 68 = X 68 := hx 68 (by decide) (by decide) (by decide)
  have x40 : X' 40 = X 40 := hx 40 (by decide) (by decide) (by decide)
  refine ⟨?_, ?_, ?_, ?_, ?_, ?_, ?_, ?_, ?_, ?_, ?_, ?_, ?_, ?_, ?_, ?_, ?_, ?_, ?_, ?_, ?_, ?_, ?_, ?_, ?_, ?_, ?_, ?_, ?_, ?_, ?_, ?_, ?_, trivial⟩
  · -- day
    simp only [nC, nS, nF, nR, k0, k3, k4, k6, k7, k8, k9, k11, k12, k13, k14, k15, k16, l0, l1, l2, l3, lk1, lk2, x44, x45, x46, x47, x48, x49, x51, x53, x54, x55, x56, x58, x59, x60, x61, x62, x64, x65, x66, x67, x68, x40]; exact rm_day h
  · -- term
    simp only [nC, nS, nF, nR, k0, k3, k4, k6, k7, k8, k9, k11, k12, k13, k14, k15, k16, l0, l1, l2, l3, lk1, lk2, x44, x45, x46, x47, x48, x49, x51, x53, x54, x55, x56, x58, x59, x60, x61, x62, x64, x65, x66, x67, x68, x40]; exact rm_term h
  · -- nC
    simp only [nC, nS, nF, nR, k0, k3, k4, k6, k7, k8, k9, k11, k12, k13, k14, k15, k16, l0, l1, l2, l3, lk1, lk2, x44, x45, x46, x47, x48, x49, x51, x53, x54, x55, x56, x58, x59, x60, x61, x62, x64, x65, x66, x67, x68, x40]; exact rm_nC h
  · -- nS
    simp only [nC, nS, nF, nR, k0, k3, k4, k6, k7, k8, k9, k11, k12, k13, k14, k15, k16, l0, l1, l2, l3, lk1, lk2, x44, x45, x46, x47, x48, x49, x51, x53, x54, x55, x56, x58, x59, x60, x61, x62, x64, x65, x66, x67, x68, x40]; exact rm_nS h
  · -- nF
    simp only [nC, nS, nF, nR, k0, k3, k4, k6, k7, k8, k9, k11, k12, k13, k14, k15, k16, l0, l1, l2, l3, lk1, lk2, x44, x45, x46, x47, x48, x49, x51, x53, x54, x55, x56, x58, x59, x60, x61, x62, x64, x65, x66, x67, x68, x40]; exact rm_nF h
  · -- nR
    simp only [nC, nS, nF, nR, k0, k3, k4, k6, k7, k8, k9, k11, k12, k13, k14, k15, k16, l0, l1, l2, l3, lk1, lk2, x44, x45, x46, x47, x48, x49, x51, x53, x54, x55, x56, x58, x59, x60, x61, x62, x64, x65, x66, x67, x68, x40]; exact rm_nR h
  · -- crd
    simp only [nC, nS, nF, nR, k0, k3, k4, k6, k7, k8, k9, k11, k12, k13, k14, k15, k16, l0, l1, l2, l3, lk1, lk2, x44, x45, x46, x47, x48, x49, x51, x53, x54, x55, x56, x58, x59, x60, x61, x62, x64, x65, x66, x67, x68, x40]; exact rm_crd h
  · -- sea
    simp only [nC, nS, nF, nR, k0, k3, k4, k6, k7, k8, k9, k11, k12, k13, k14, k15, k16, l0, l1, l2, l3, lk1, lk2, x44, x45, x46, x47, x48, x49, x51, x53, x54, x55, x56, x58, x59, x60, x61, x62, x64, x65, x66, x67, x68, x40]; exact rm_sea h
  · -- res
    simp only [nC, nS, nF, nR, k0, k3, k4, k6, k7, k8, k9, k11, k12, k13, k14, k15, k16, l0, l1, l2, l3, lk1, lk2, x44, x45, x46, x47, x48, x49, x51, x53, x54, x55, x56, x58, x59, x60, x61, x62, x64, x65, x66, x67, x68, x40]; exact rm_res h
  · -- res0
    simp only [nC, nS, nF, nR, k0, k3, k4, k6, k7, k8, k9, k11, k12, k13, k14, k15, k16, l0, l1, l2, l3, lk1, lk2, x44, x45, x46, x47, x48, x49, x51, x53, x54, x55, x56, x58, x59, x60, x61, x62, x64, x65, x66, x67, x68, x40]; exact rm_res0 h
  · -- req
    simp only [nC, nS, nF, nR, k0, k3, k4, k6, k7, k8, k9, k11, k12, k13, k14, k15, k16, l0, l1, l2, l3, lk1, lk2, x44, x45, x46, x47, x48, x49, x51, x53, x54, x55, x56, x58, x59, x60, x61, x62, x64, x65, x66, x67, x68, x40]; exact rm_req h
  · -- wN
    simp only [nC, nS, nF, nR, k0, k3, k4, k6, k7, k8, k9, k11, k12, k13, k14, k15, k16, l0, l1, l2, l3, lk1, lk2, x44, x45, x46, x47, x48, x49, x51, x53, x54, x55, x56, x58, x59, x60, x61, x62, x64, x65, x66, x67, x68, x40]; exact rm_wN h
  · -- wN0
    simp only [nC, nS, nF, nR, k0, k3, k4, k6, k7, k8, k9, k11, k12, k13, k14, k15, k16, l0, l1, l2, l3, lk1, lk2, x44, x45, x46, x47, x48, x49, x51, x53, x54, x55, x56, x58, x59, x60, x61, x62, x64, x65, x66, x67, x68, x40]; exact rm_wN0 h
  · -- wA
    simp only [nC, nS, nF, nR, k0, k3, k4, k6, k7, k8, k9, k11, k12, k13, k14, k15, k16, l0, l1, l2, l3, lk1, lk2, x44, x45, x46, x47, x48, x49, x51, x53, x54, x55, x56, x58, x59, x60, x61, x62, x64, x65, x66, x67, x68, x40]; exact rm_wA h
  · -- maj
    simp only [nC, nS, nF, nR, k0, k3, k4, k6, k7, k8, k9, k11, k12, k13, k14, k15, k16, l0, l1, l2, l3, lk1, lk2, x44, x45, x46, x47, x48, x49, x51, x53, x54, x55, x56, x58, x59, x60, x61, x62, x64, x65, x66, x67, x68, x40]; exact rm_maj h
  · -- tak
    intro s2 h2; rw [nSe] at h2; by_cases e : s2 = s; (subst e; exact hb); (rw [h52 s2 e, h5 s2 e]; exact rm_tak h s2 h2)
  · -- tak0
    intro s2 h2 h3; rw [nSe] at h2; rw [h52 s2 (by omega)]; exact rm_tak0 h s2 h2 h3
  · -- mov
    simp only [nC, nS, nF, nR, k0, k3, k4, k6, k7, k8, k9, k11, k12, k13, k14, k15, k16, l0, l1, l2, l3, lk1, lk2, x44, x45, x46, x47, x48, x49, x51, x53, x54, x55, x56, x58, x59, x60, x61, x62, x64, x65, x66, x67, x68, x40]; exact rm_mov h
  · -- mov0
    simp only [nC, nS, nF, nR, k0, k3, k4, k6, k7, k8, k9, k11, k12, k13, k14, k15, k16, l0, l1, l2, l3, lk1, lk2, x44, x45, x46, x47, x48, x49, x51, x53, x54, x55, x56, x58, x59, x60, x61, x62, x64, x65, x66, x67, x68, x40]; exact rm_mov0 h
  · -- tm
    simp only [nC, nS, nF, nR, k0, k3, k4, k6, k7, k8, k9, k11, k12, k13, k14, k15, k16, l0, l1, l2, l3, lk1, lk2, x44, x45, x46, x47, x48, x49, x51, x53, x54, x55, x56, x58, x59, x60, x61, x62, x64, x65, x66, x67, x68, x40]; exact rm_tm h
  · -- tm0
    simp only [nC, nS, nF, nR, k0, k3, k4, k6, k7, k8, k9, k11, k12, k13, k14, k15, k16, l0, l1, l2, l3, lk1, lk2, x44, x45, x46, x47, x48, x49, x51, x53, x54, x55, x56, x58, x59, x60, x61, x62, x64, x65, x66, x67, x68, x40]; exact rm_tm0 h
  · -- tri
    simp only [nC, nS, nF, nR, k0, k3, k4, k6, k7, k8, k9, k11, k12, k13, k14, k15, k16, l0, l1, l2, l3, lk1, lk2, x44, x45, x46, x47, x48, x49, x51, x53, x54, x55, x56, x58, x59, x60, x61, x62, x64, x65, x66, x67, x68, x40]; exact rm_tri h
  · -- tri0
    simp only [nC, nS, nF, nR, k0, k3, k4, k6, k7, k8, k9, k11, k12, k13, k14, k15, k16, l0, l1, l2, l3, lk1, lk2, x44, x45, x46, x47, x48, x49, x51, x53, x54, x55, x56, x58, x59, x60, x61, x62, x64, x65, x66, x67, x68, x40]; exact rm_tri0 h
  · -- trd
    simp only [nC, nS, nF, nR, k0, k3, k4, k6, k7, k8, k9, k11, k12, k13, k14, k15, k16, l0, l1, l2, l3, lk1, lk2, x44, x45, x46, x47, x48, x49, x51, x53, x54, x55, x56, x58, x59, x60, x61, x62, x64, x65, x66, x67, x68, x40]; exact rm_trd h
  · -- dep
    simp only [nC, nS, nF, nR, k0, k3, k4, k6, k7, k8, k9, k11, k12, k13, k14, k15, k16, l0, l1, l2, l3, lk1, lk2, x44, x45, x46, x47, x48, x49, x51, x53, x54, x55, x56, x58, x59, x60, x61, x62, x64, x65, x66, x67, x68, x40]; exact rm_dep h
  · -- f0
    simp only [nC, nS, nF, nR, k0, k3, k4, k6, k7, k8, k9, k11, k12, k13, k14, k15, k16, l0, l1, l2, l3, lk1, lk2, x44, x45, x46, x47, x48, x49, x51, x53, x54, x55, x56, x58, x59, x60, x61, x62, x64, x65, x66, x67, x68, x40]; exact rm_f0 h
  · -- f1
    simp only [nC, nS, nF, nR, k0, k3, k4, k6, k7, k8, k9, k11, k12, k13, k14, k15, k16, l0, l1, l2, l3, lk1, lk2, x44, x45, x46, x47, x48, x49, x51, x53, x54, x55, x56, x58, x59, x60, x61, x62, x64, x65, x66, x67, x68, x40]; exact rm_f1 h
  · -- f2
    simp only [nC, nS, nF, nR, k0, k3, k4, k6, k7, k8, k9, k11, k12, k13, k14, k15, k16, l0, l1, l2, l3, lk1, lk2, x44, x45, x46, x47, x48, x49, x51, x53, x54, x55, x56, x58, x59, x60, x61, x62, x64, x65, x66, x67, x68, x40]; exact rm_f2 h
  · -- f3
    simp only [nC, nS, nF, nR, k0, k3, k4, k6, k7, k8, k9, k11, k12, k13, k14, k15, k16, l0, l1, l2, l3, lk1, lk2, x44, x45, x46, x47, x48, x49, x51, x53, x54, x55, x56, x58, x59, x60, x61, x62, x64, x65, x66, x67, x68, x40]; exact rm_f3 h
  · -- f4
    simp only [nC, nS, nF, nR, k0, k3, k4, k6, k7, k8, k9, k11, k12, k13, k14, k15, k16, l0, l1, l2, l3, lk1, lk2, x44, x45, x46, x47, x48, x49, x51, x53, x54, x55, x56, x58, x59, x60, x61, x62, x64, x65, x66, x67, x68, x40]; exact rm_f4 h
  · -- rul
    simp only [nC, nS, nF, nR, k0, k3, k4, k6, k7, k8, k9, k11, k12, k13, k14, k15, k16, l0, l1, l2, l3, lk1, lk2, x44, x45, x46, x47, x48, x49, x51, x53, x54, x55, x56, x58, x59, x60, x61, x62, x64, x65, x66, x67, x68, x40]; exact rm_rul h
  · -- alw
    simp only [nC, nS, nF, nR, k0, k3, k4, k6, k7, k8, k9, k11, k12, k13, k14, k15, k16, l0, l1, l2, l3, lk1, lk2, x44, x45, x46, x47, x48, x49, x51, x53, x54, x55, x56, x58, x59, x60, x61, x62, x64, x65, x66, x67, x68, x40]; exact rm_alw h
  · -- deg
    simp only [nC, nS, nF, nR, k0, k3, k4, k6, k7, k8, k9, k11, k12, k13, k14, k15, k16, l0, l1, l2, l3, lk1, lk2, x44, x45, x46, x47, x48, x49, x51, x53, x54, x55, x56, x58, x59, x60, x61, x62, x64, x65, x66, x67, x68, x40]; exact rm_deg h
set_option maxRecDepth 100000 in
set_option maxHeartbeats 4000000 in
theorem c_X12_ends {g : Gt} {α : AL} {ν : Nat → Nat → Bool} {X : XM} {h : AH} (hT : TR g α ν X h) {O : XM} (hO : WO O) (hM : RM O X) {s : Nat} (hs : (s : Int) < nS O) {c : Nat} (hc : (c : Int) < nC O) (htk : tak O s c = true) (hd : O 0 0 5 ≤ 20) : Mu g α ν M_X12_ends 16 [.ref (α 40 0), .int (J (s : Int)), .int (J (c : Int))] h (none) (fun X' => RM (eO O s (c : Int)) X' ∧ FM X X') := by
  refine mu_of rfl rfl (ls := [some (.ref (α 40 0)), some (.int (J (s : Int))), some (.int (J (c : Int))), none, none]) rfl (Nat.le_of_ble_eq_true rfl) ?_
  show Ev g M_X12_ends 16 0 [some (.ref (α 40 0)), some (.int (J (s : Int))), some (.int (J (c : Int))), none, none] [] h 0 0 (UQ g α ν (none) (fun X' => RM (eO O s (c : Int)) X' ∧ FM X X'))
  have q0 := rm_nC hM
  have q1 := wo_nC hO
  have q2 := rm_nS hM
  have q3 := wo_nS hO
  refine ev_ild2 1 dX12_ends_0 rfl ?_
  refine ev_ist3 2 dX12_ends_1 rfl (by decide) rfl ?_
  have lp2 : ∀ (n2 : Nat) (Q : XM) (n : Nat) (z : Int) (z3 : Int) (o4 : Option Value) (h : AH) (X2 : XM), n < n2 → (WO Q) → (TC Q s z) → (eN n Q s z = eO O s (c : Int)) → (cnt (tak Q s) 20 ≤ (n : Int)) → (Q 0 = O 0) → (Q 1 = O 1) → z3 = z → TR g α ν X2 h → (RM Q X2 ∧ FM X X2) → Ev g M_X12_ends 16 2 [some (.ref (α 40 0)), some (.int (J (s : Int))), some (.int (J (c : Int))), some (.int (J z3)), o4] [] h 0 0 (UQ g α ν (none) (fun X' => RM (eO O s (c : Int)) X' ∧ FM X X')) := by
    intro n2
    induction n2 with
    | zero => intro Q n z z3 o4 h X2 hm; exact absurd hm (Nat.not_lt_zero _)
    | succ n2 ih2 =>
      intro Q n z z3 o4 h X2 hm2 hOQ hTC hN hcn hQ0 hQ1 e3 hT hI
      subst e3
      obtain ⟨hMQ, hFQ⟩ := hI
      have enC : nC Q = nC O := by unfold nC; rw [hQ1]
      have enS : nS Q = nS O := by unfold nS; rw [hQ1]
      have q0Q := rm_nC hMQ
      have edQ := rm_day hMQ
      rw [hQ0] at edQ
      have qz := TC_R hOQ hTC
      refine ev_ild3 3 dX12_ends_2 rfl ?_
      refine tj_iconst 4 dX12_ends_3 rfl ?_
      refine tj_icmp_eq 92 7 dX12_ends_4 (by decide) rfl (by first | exact TR.rng hT _ _ _ | exact R31_of _ | exact bi_R _ | (constructor <;> omega)) (by first | exact TR.rng hT _ _ _ | exact R31_of _ | exact bi_R _ | (constructor <;> omega)) (fun c4 => ?_) (fun c4 => ?_)
      · skip
        exact ev_vreturn (uq_v hT (by rw [← hN, c4, eN_0]; exact ⟨hMQ, hFQ⟩)) rfl dX12_ends_92
      · skip
        rcases hTC with e | ⟨r, e, hr, htr⟩
        · exact absurd e c4
        subst e
        have hcp := cnt_pos htr 20 (by omega)
        obtain ⟨m, rfl⟩ : ∃ m, n = m + 1 := ⟨n - 1, by omega⟩
        have t3 := rm_tak hMQ s (by omega)
        have t31 := t3.1
        refine ev_ald0 8 dX12_ends_7 rfl ?_
        refine ev_getfield 11 14 12 fl_X12_31_14 (tr40 hT) rfl dX12_ends_8 rfl ?_
        refine ev_ild1 12 dX12_ends_11 rfl ?_
        refine ev_dup2 13 dX12_ends_12 rfl rfl rfl ?_
        refine tv_iald 14 (tr52 hT) (s) (by omega) (by omega) (by omega) dX12_ends_13 rfl ?_
        refine tj_iconst 15 dX12_ends_14 rfl ?_
        refine ev_ild3 16 dX12_ends_15 rfl ?_
        refine tj_ishl 17 dX12_ends_16 1 r rfl rfl (by omega) rfl ?_
        refine tj_iconst 18 dX12_ends_17 rfl ?_
        refine ev_ixor 19 dX12_ends_18 rfl ?_
        rw [J_not (c := r) (by omega)]
        refine tj_iand 20 dX12_ends_19 (X2 52 0 s).toNat (4294967295 - 1 <<< r) (by omega) rfl rfl ?_
        have hbs := bitsE_off (rm_tak hMQ s (by omega)) (c := r) (by omega) (f2 := xs Q 5 s r 0 5 s) (by rw [xs_at, if_pos rfl]) (fun j hj => by rw [xs_at, if_neg hj])
        have hb1 := hbs.1
        have hb2 := hbs.2.1
        refine tv_iast 21 hT (tv52 hT) (fun _ => rfl) (s) (by omega) (by omega) (by omega) (by first | exact TR.rng hT _ _ _ | exact R31_of _ | exact bi_R _ | (constructor <;> omega)) dX12_ends_20 rfl (fun h hT => ?_)
        obtain ⟨X3, hX3⟩ : ∃ Z, Z = xs X2 52 0 s (((X2 52 0 s).toNat &&& (4294967295 - 1 <<< r) : Nat) : Int) := ⟨_, rfl⟩
        rw [← hX3] at hT
        have hM3 : RM (xs Q 5 s r 0) X3 := by rw [hX3]; exact rm_un hMQ (by omega) (by omega) (fun k _ _ q => xs_nk q) (fun j hj => by rw [xs_at, if_neg hj]) (by rw [xs_at, if_pos rfl]; exact hbs)
        have hF3 : FM X X3 := by rw [hX3]; exact hFQ.tr (fun kk q => xs_nk (by omega))
        have edX3 := rm_day hM3
        rw [xs_nk (by decide), hQ0] at edX3
        refine ev_ald0 22 dX12_ends_21 rfl ?_
        refine ev_getfield 25 14 1 fl_X12_164_14 (tr40 hT) rfl dX12_ends_22 rfl ?_
        refine tj_bipush 27 dX12_ends_25 (by decide) rfl ?_
        refine tj_icmp_le 37 30 dX12_ends_27 (by decide) rfl (by first | exact TR.rng hT _ _ _ | exact R31_of _ | exact bi_R _ | (constructor <;> omega)) (by first | exact TR.rng hT _ _ _ | exact R31_of _ | exact bi_R _ | (constructor <;> omega)) (fun c27 => ?_) (fun c27 => ?_)
        · skip
          have hMe : RM (en1 Q s r) X3 := by unfold en1; rw [if_neg (by rw [hQ0]; omega)]; exact hM3
          obtain ⟨XE, hXE⟩ : ∃ Z, Z = X3 := ⟨_, rfl⟩
          rw [← hXE] at hT hMe
          have hFE : FM X XE := by rw [hXE]; exact hF3
          have hOE : WO (en1 Q s r) := wo_en1 hOQ (by omega) (by omega) htr
          have hME : RM (en1 Q s r) XE := hMe
          have q0E := rm_nC hME
          have enE : nC (en1 Q s r) = nC O := by rw [nC_en1]; exact enC
          have esE : nS (en1 Q s r) = nS O := by rw [nS_en1]; exact enS
          refine tj_iconst 38 dX12_ends_37 rfl ?_
          refine ev_ist3 39 dX12_ends_38 rfl (by decide) rfl ?_
          refine ev_ald0 40 dX12_ends_39 rfl ?_
          refine ev_getfield 43 14 3 fl_X12_93_14 (tr40 hT) rfl dX12_ends_40 rfl ?_
          refine tj_iconst 44 dX12_ends_43 rfl ?_
          refine tj_isub 45 dX12_ends_44 rfl ?_
          refine ev_ist4 47 dX12_ends_45 rfl (by decide) rfl ?_
          have lp47 : ∀ (n47 : Nat) (k : Nat) (y : Int) (z3 : Int) (z4 : Int) , k < n47 → ((k : Int) ≤ nC O) → (FU (en1 Q s r) s k y) → z3 = y → z4 = (k : Int) - 1 → Ev g M_X12_ends 16 47 [some (.ref (α 40 0)), some (.int (J (s : Int))), some (.int (J (c : Int))), some (.int (J z3)), some (.int (J z4))] [] h 0 0 (UQ g α ν (none) (fun X' => RM (eO O s (c : Int)) X' ∧ FM X X')) := by
            intro n47
            induction n47 with
            | zero => intro k y z3 z4 hm; exact absurd hm (Nat.not_lt_zero _)
            | succ n47 ih47 =>
              intro k y z3 z4 hm47 hk hy e3 e4
              subst e3
              subst e4
              refine ev_ild4 49 dX12_ends_47 rfl ?_
              refine tj_if_lt 89 52 dX12_ends_49 (by decide) rfl (by first | exact TR.rng hT _ _ _ | exact R31_of _ | exact bi_R _ | (constructor <;> omega)) (fun c49 => ?_) (fun c49 => ?_)
              · skip
                obtain rfl : k = 0 := by omega
                have hfu : z3 = fu (en1 Q s r) s := FU_eq hy (FU_fu hOE s)
                have hTC2 := TC_fu hy
                have hN2 : eN m (en1 Q s r) s z3 = eO O s (c : Int) := by rw [← hN, eN, if_neg (by omega), Int.toNat_natCast, hfu]
                have hcn2 : cnt (tak (en1 Q s r) s) 20 ≤ (m : Int) := by rw [cnt_en1 htr (by omega)]; omega
                have hQ02 : en1 Q s r 0 = O 0 := by rw [en1_k (by decide) (by decide) (by decide) (by decide)]; exact hQ0
                have hQ12 : en1 Q s r 1 = O 1 := by rw [en1_k (by decide) (by decide) (by decide) (by decide)]; exact hQ1
                refine ev_goto 2 dX12_ends_89 (by decide) ?_
                exact ih2 (en1 Q s r) (m) (z3) _ _ _ _ (by omega) (by first | omega | assumption | first | exact hO | exact Or.inr ⟨c, rfl, hc, htk⟩ | rfl | (have := cnt_0 (tak O s) 20; omega)) (by first | omega | assumption | first | exact hO | exact Or.inr ⟨c, rfl, hc, htk⟩ | rfl | (have := cnt_0 (tak O s) 20; omega)) (by first | omega | assumption | first | exact hO | exact Or.inr ⟨c, rfl, hc, htk⟩ | rfl | (have := cnt_0 (tak O s) 20; omega)) (by first | omega | assumption | first | exact hO | exact Or.inr ⟨c, rfl, hc, htk⟩ | rfl | (have := cnt_0 (tak O s) 20; omega)) (by first | omega | assumption | first | exact hO | exact Or.inr ⟨c, rfl, hc, htk⟩ | rfl | (have := cnt_0 (tak O s) 20; omega)) (by first | omega | assumption | first | exact hO | exact Or.inr ⟨c, rfl, hc, htk⟩ | rfl | (have := cnt_0 (tak O s) 20; omega)) (by first | rfl | omega | (omega)) hT (by first | assumption | (first | exact ⟨hM, FM.rf X⟩ | exact ⟨hME, hFE⟩))
              · skip
                obtain ⟨k2, rfl⟩ : ∃ k2, k = k2 + 1 := ⟨k - 1, by omega⟩
                rw [show ((k2 + 1 : Nat) : Int) - 1 = (k2 : Int) by omega]
                refine ev_ald0 53 dX12_ends_52 rfl ?_
                refine ev_getfield 56 14 12 fl_X12_31_14 (tr40 hT) rfl dX12_ends_53 rfl ?_
                refine ev_ild1 57 dX12_ends_56 rfl ?_
                refine tv_iald 58 (tr52 hT) (s) (by omega) (by omega) (by omega) dX12_ends_57 rfl ?_
                refine ev_ild4 60 dX12_ends_58 rfl ?_
                refine tc_S2 63 dX12_ends_60 lks_X12_106 rfl (by first | decide | omega) (Nat.le_of_ble_eq_true rfl) (has_of (rm_tak hME s (by omega)) (by omega) rfl : Pr g M_X12_has 0 _ h (some (.int (J (bi (tak (en1 Q s r) s k2)))))) ?_
                refine tb_if_eq 81 66 dX12_ends_63 (by decide) rfl (fun c63 => ?_) (fun c63 => ?_)
                · skip
                  obtain ⟨y2, hy2⟩ : ∃ y2 : Int, y2 = z3 ∧ FU (en1 Q s r) s k2 y2 := ⟨z3, rfl, FU_n (by unfold unm; rw [c63]; rfl) hy⟩
                  refine ev_ild3 82 dX12_ends_81 rfl ?_
                  refine ev_ist3 83 dX12_ends_82 rfl (by decide) rfl ?_
                  refine tj_inc4 86 dX12_ends_83 rfl (by decide) rfl ?_
                  refine ev_goto 47 dX12_ends_86 (by decide) ?_
                  exact ih47 (k2) (y2) _ _ (by omega) (by first | omega | assumption | first | exact FU_nil (by omega) | exact hy2.2) (by first | omega | assumption | first | exact FU_nil (by omega) | exact hy2.2) (by first | rfl | omega | (exact hy2.1.symm)) (by first | rfl | omega | (exact hy2.1.symm))
                · skip
                  refine ev_ald0 67 dX12_ends_66 rfl ?_
                  refine ev_ild1 68 dX12_ends_67 rfl ?_
                  refine ev_ild4 70 dX12_ends_68 rfl ?_
                  refine tc_V2 73 14 dX12_ends_70 lkv_X12_176 (tr40 hT) rfl rfl (by first | decide | omega) (Nat.le_of_ble_eq_true rfl) (c_X12_mayTake hT hOE hME (by omega) (by omega)) ?_
                  refine tb_if_ne 81 76 dX12_ends_73 (by decide) rfl (fun c73 => ?_) (fun c73 => ?_)
                  · skip
                    obtain ⟨y2, hy2⟩ : ∃ y2 : Int, y2 = z3 ∧ FU (en1 Q s r) s k2 y2 := ⟨z3, rfl, FU_n (by unfold unm; rw [c63, c73]; rfl) hy⟩
                    refine ev_ild3 82 dX12_ends_81 rfl ?_
                    refine ev_ist3 83 dX12_ends_82 rfl (by decide) rfl ?_
                    refine tj_inc4 86 dX12_ends_83 rfl (by decide) rfl ?_
                    refine ev_goto 47 dX12_ends_86 (by decide) ?_
                    exact ih47 (k2) (y2) _ _ (by omega) (by first | omega | assumption | first | exact FU_nil (by omega) | exact hy2.2) (by first | omega | assumption | first | exact FU_nil (by omega) | exact hy2.2) (by first | rfl | omega | (exact hy2.1.symm)) (by first | rfl | omega | (exact hy2.1.symm))
                  · skip
                    obtain ⟨y2, hy2⟩ : ∃ y2 : Int, y2 = (k2 : Int) ∧ FU (en1 Q s r) s k2 y2 := ⟨(k2 : Int), rfl, FU_y (by omega) (by unfold unm; rw [c63, c73]; rfl)⟩
                    refine ev_ild4 78 dX12_ends_76 rfl ?_
                    refine ev_goto 82 dX12_ends_78 (by decide) ?_
                    refine ev_ist3 83 dX12_ends_82 rfl (by decide) rfl ?_
                    refine tj_inc4 86 dX12_ends_83 rfl (by decide) rfl ?_
                    refine ev_goto 47 dX12_ends_86 (by decide) ?_
                    exact ih47 (k2) (y2) _ _ (by omega) (by first | omega | assumption | first | exact FU_nil (by omega) | exact hy2.2) (by first | omega | assumption | first | exact FU_nil (by omega) | exact hy2.2) (by first | rfl | omega | (exact hy2.1.symm)) (by first | rfl | omega | (exact hy2.1.symm))
          exact lp47 _ ((nC O).toNat) (-1) _ _ (Nat.lt_succ_self _) (by first | omega | assumption | first | exact FU_nil (by omega) | exact hy2.2) (by first | omega | assumption | first | exact FU_nil (by omega) | exact hy2.2) (by first | rfl | omega | (exact hy2.1.symm)) (by first | rfl | omega | (exact hy2.1.symm))
        · skip
          have hsQ : (s : Int) < nS Q := by omega
          have hs3 : (s : Int) < nS (xs Q 5 s r 0) := by unfold nS; rw [xs_nk (by decide)]; exact hsQ
          have wt3 := wo_tk3 hOQ s r (by omega) (by omega) (of_decide_eq_true htr)
          have wtr := wo_tri hOQ s r (by omega) (by omega)
          have ht9 : 0 ≤ xs Q 5 s r 0 9 s r ∧ xs Q 5 s r 0 9 s r < 3 := by rw [xs_nk (by decide)]; omega
          refine ev_ald0 31 dX12_ends_30 rfl ?_
          refine ev_ild1 32 dX12_ends_31 rfl ?_
          refine ev_ild3 33 dX12_ends_32 rfl ?_
          refine tj_iconst 34 dX12_ends_33 rfl ?_
          refine tmv_V3 37 14 dX12_ends_34 lkv_X12_190 (tr40 hT) rfl rfl (by first | decide | omega) (Nat.le_of_ble_eq_true rfl) (c_X12_tries hT hM3 (s := s) (c := r) (by omega) (by omega) (by omega) ht9 (by first | exact TR.rng hT _ _ _ | exact R31_of _ | exact bi_R _ | (constructor <;> omega))) (fun h X1 hT hP34 => ?_)
          have hd3 := rm_day hM3
          have h05 : xs Q 5 s r 0 1 = O 1 := by rw [xs_nk (by decide)]; exact hQ1
          have htri : ∀ s2 c2 : Nat, (s2 : Int) < nS (xs Q 5 s r 0) → c2 < 20 → 0 ≤ xs Q 5 s r 0 9 s2 c2 ∧ xs Q 5 s r 0 9 s2 c2 ≤ 3 := fun s2 c2 h2 h3 => by rw [xs_nk (by decide)]; exact wo_tri hOQ s2 c2 (by unfold nS at h2 ⊢; rw [xs_nk (by decide)] at h2; exact h2) h3
          have hMe : RM (en1 Q s r) X1 := by unfold en1; rw [if_pos (by rw [hQ0]; omega)]; exact rm_aa hM3 htri hs3 (by omega) ht9.2 (fun kk _ _ q => hP34.1 kk q.1 q.2) hP34.2.1 hP34.2.2
          obtain ⟨XE, hXE⟩ : ∃ Z, Z = X1 := ⟨_, rfl⟩
          rw [← hXE] at hT hMe
          have hFE : FM X XE := by rw [hXE]; exact hF3.tr (fun kk q => hP34.1 kk (by omega) (by omega))
          have hOE : WO (en1 Q s r) := wo_en1 hOQ (by omega) (by omega) htr
          have hME : RM (en1 Q s r) XE := hMe
          have q0E := rm_nC hME
          have enE : nC (en1 Q s r) = nC O := by rw [nC_en1]; exact enC
          have esE : nS (en1 Q s r) = nS O := by rw [nS_en1]; exact enS
          refine tj_iconst 38 dX12_ends_37 rfl ?_
          refine ev_ist3 39 dX12_ends_38 rfl (by decide) rfl ?_
          refine ev_ald0 40 dX12_ends_39 rfl ?_
          refine ev_getfield 43 14 3 fl_X12_93_14 (tr40 hT) rfl dX12_ends_40 rfl ?_
          refine tj_iconst 44 dX12_ends_43 rfl ?_
          refine tj_isub 45 dX12_ends_44 rfl ?_
          refine ev_ist4 47 dX12_ends_45 rfl (by decide) rfl ?_
          have lp47 : ∀ (n47 : Nat) (k : Nat) (y : Int) (z3 : Int) (z4 : Int) , k < n47 → ((k : Int) ≤ nC O) → (FU (en1 Q s r) s k y) → z3 = y → z4 = (k : Int) - 1 → Ev g M_X12_ends 16 47 [some (.ref (α 40 0)), some (.int (J (s : Int))), some (.int (J (c : Int))), some (.int (J z3)), some (.int (J z4))] [] h 0 0 (UQ g α ν (none) (fun X' => RM (eO O s (c : Int)) X' ∧ FM X X')) := by
            intro n47
            induction n47 with
            | zero => intro k y z3 z4 hm; exact absurd hm (Nat.not_lt_zero _)
            | succ n47 ih47 =>
              intro k y z3 z4 hm47 hk hy e3 e4
              subst e3
              subst e4
              refine ev_ild4 49 dX12_ends_47 rfl ?_
              refine tj_if_lt 89 52 dX12_ends_49 (by decide) rfl (by first | exact TR.rng hT _ _ _ | exact R31_of _ | exact bi_R _ | (constructor <;> omega)) (fun c49 => ?_) (fun c49 => ?_)
              · skip
                obtain rfl : k = 0 := by omega
                have hfu : z3 = fu (en1 Q s r) s := FU_eq hy (FU_fu hOE s)
                have hTC2 := TC_fu hy
                have hN2 : eN m (en1 Q s r) s z3 = eO O s (c : Int) := by rw [← hN, eN, if_neg (by omega), Int.toNat_natCast, hfu]
                have hcn2 : cnt (tak (en1 Q s r) s) 20 ≤ (m : Int) := by rw [cnt_en1 htr (by omega)]; omega
                have hQ02 : en1 Q s r 0 = O 0 := by rw [en1_k (by decide) (by decide) (by decide) (by decide)]; exact hQ0
                have hQ12 : en1 Q s r 1 = O 1 := by rw [en1_k (by decide) (by decide) (by decide) (by decide)]; exact hQ1
                refine ev_goto 2 dX12_ends_89 (by decide) ?_
                exact ih2 (en1 Q s r) (m) (z3) _ _ _ _ (by omega) (by first | omega | assumption | first | exact hO | exact Or.inr ⟨c, rfl, hc, htk⟩ | rfl | (have := cnt_0 (tak O s) 20; omega)) (by first | omega | assumption | first | exact hO | exact Or.inr ⟨c, rfl, hc, htk⟩ | rfl | (have := cnt_0 (tak O s) 20; omega)) (by first | omega | assumption | first | exact hO | exact Or.inr ⟨c, rfl, hc, htk⟩ | rfl | (have := cnt_0 (tak O s) 20; omega)) (by first | omega | assumption | first | exact hO | exact Or.inr ⟨c, rfl, hc, htk⟩ | rfl | (have := cnt_0 (tak O s) 20; omega)) (by first | omega | assumption | first | exact hO | exact Or.inr ⟨c, rfl, hc, htk⟩ | rfl | (have := cnt_0 (tak O s) 20; omega)) (by first | omega | assumption | first | exact hO | exact Or.inr ⟨c, rfl, hc, htk⟩ | rfl | (have := cnt_0 (tak O s) 20; omega)) (by first | rfl | omega | (omega)) hT (by first | assumption | (first | exact ⟨hM, FM.rf X⟩ | exact ⟨hME, hFE⟩))
              · skip
                obtain ⟨k2, rfl⟩ : ∃ k2, k = k2 + 1 := ⟨k - 1, by omega⟩
                rw [show ((k2 + 1 : Nat) : Int) - 1 = (k2 : Int) by omega]
                refine ev_ald0 53 dX12_ends_52 rfl ?_
                refine ev_getfield 56 14 12 fl_X12_31_14 (tr40 hT) rfl dX12_ends_53 rfl ?_
                refine ev_ild1 57 dX12_ends_56 rfl ?_
                refine tv_iald 58 (tr52 hT) (s) (by omega) (by omega) (by omega) dX12_ends_57 rfl ?_
                refine ev_ild4 60 dX12_ends_58 rfl ?_
                refine tc_S2 63 dX12_ends_60 lks_X12_106 rfl (by first | decide | omega) (Nat.le_of_ble_eq_true rfl) (has_of (rm_tak hME s (by omega)) (by omega) rfl : Pr g M_X12_has 0 _ h (some (.int (J (bi (tak (en1 Q s r) s k2)))))) ?_
                refine tb_if_eq 81 66 dX12_ends_63 (by decide) rfl (fun c63 => ?_) (fun c63 => ?_)
                · skip
                  obtain ⟨y2, hy2⟩ : ∃ y2 : Int, y2 = z3 ∧ FU (en1 Q s r) s k2 y2 := ⟨z3, rfl, FU_n (by unfold unm; rw [c63]; rfl) hy⟩
                  refine ev_ild3 82 dX12_ends_81 rfl ?_
                  refine ev_ist3 83 dX12_ends_82 rfl (by decide) rfl ?_
                  refine tj_inc4 86 dX12_ends_83 rfl (by decide) rfl ?_
                  refine ev_goto 47 dX12_ends_86 (by decide) ?_
                  exact ih47 (k2) (y2) _ _ (by omega) (by first | omega | assumption | first | exact FU_nil (by omega) | exact hy2.2) (by first | omega | assumption | first | exact FU_nil (by omega) | exact hy2.2) (by first | rfl | omega | (exact hy2.1.symm)) (by first | rfl | omega | (exact hy2.1.symm))
                · skip
                  refine ev_ald0 67 dX12_ends_66 rfl ?_
                  refine ev_ild1 68 dX12_ends_67 rfl ?_
                  refine ev_ild4 70 dX12_ends_68 rfl ?_
                  refine tc_V2 73 14 dX12_ends_70 lkv_X12_176 (tr40 hT) rfl rfl (by first | decide | omega) (Nat.le_of_ble_eq_true rfl) (c_X12_mayTake hT hOE hME (by omega) (by omega)) ?_
                  refine tb_if_ne 81 76 dX12_ends_73 (by decide) rfl (fun c73 => ?_) (fun c73 => ?_)
                  · skip
                    obtain ⟨y2, hy2⟩ : ∃ y2 : Int, y2 = z3 ∧ FU (en1 Q s r) s k2 y2 := ⟨z3, rfl, FU_n (by unfold unm; rw [c63, c73]; rfl) hy⟩
                    refine ev_ild3 82 dX12_ends_81 rfl ?_
                    refine ev_ist3 83 dX12_ends_82 rfl (by decide) rfl ?_
                    refine tj_inc4 86 dX12_ends_83 rfl (by decide) rfl ?_
                    refine ev_goto 47 dX12_ends_86 (by decide) ?_
                    exact ih47 (k2) (y2) _ _ (by omega) (by first | omega | assumption | first | exact FU_nil (by omega) | exact hy2.2) (by first | omega | assumption | first | exact FU_nil (by omega) | exact hy2.2) (by first | rfl | omega | (exact hy2.1.symm)) (by first | rfl | omega | (exact hy2.1.symm))
                  · skip
                    obtain ⟨y2, hy2⟩ : ∃ y2 : Int, y2 = (k2 : Int) ∧ FU (en1 Q s r) s k2 y2 := ⟨(k2 : Int), rfl, FU_y (by omega) (by unfold unm; rw [c63, c73]; rfl)⟩
                    refine ev_ild4 78 dX12_ends_76 rfl ?_
                    refine ev_goto 82 dX12_ends_78 (by decide) ?_
                    refine ev_ist3 83 dX12_ends_82 rfl (by decide) rfl ?_
                    refine tj_inc4 86 dX12_ends_83 rfl (by decide) rfl ?_
                    refine ev_goto 47 dX12_ends_86 (by decide) ?_
                    exact ih47 (k2) (y2) _ _ (by omega) (by first | omega | assumption | first | exact FU_nil (by omega) | exact hy2.2) (by first | omega | assumption | first | exact FU_nil (by omega) | exact hy2.2) (by first | rfl | omega | (exact hy2.1.symm)) (by first | rfl | omega | (exact hy2.1.symm))
          exact lp47 _ ((nC O).toNat) (-1) _ _ (Nat.lt_succ_self _) (by first | omega | assumption | first | exact FU_nil (by omega) | exact hy2.2) (by first | omega | assumption | first | exact FU_nil (by omega) | exact hy2.2) (by first | rfl | omega | (exact hy2.1.symm)) (by first | rfl | omega | (exact hy2.1.symm))
  exact lp2 _ (O) (20) ((c : Int)) _ _ _ _ (Nat.lt_succ_self _) (by first | omega | assumption | first | exact hO | exact Or.inr ⟨c, rfl, hc, htk⟩ | rfl | (have := cnt_0 (tak O s) 20; omega)) (by first | omega | assumption | first | exact hO | exact Or.inr ⟨c, rfl, hc, htk⟩ | rfl | (have := cnt_0 (tak O s) 20; omega)) (by first | omega | assumption | first | exact hO | exact Or.inr ⟨c, rfl, hc, htk⟩ | rfl | (have := cnt_0 (tak O s) 20; omega)) (by first | omega | assumption | first | exact hO | exact Or.inr ⟨c, rfl, hc, htk⟩ | rfl | (have := cnt_0 (tak O s) 20; omega)) (by first | omega | assumption | first | exact hO | exact Or.inr ⟨c, rfl, hc, htk⟩ | rfl | (have := cnt_0 (tak O s) 20; omega)) (by first | omega | assumption | first | exact hO | exact Or.inr ⟨c, rfl, hc, htk⟩ | rfl | (have := cnt_0 (tak O s) 20; omega)) (by first | rfl | omega | (omega)) hT (by first | assumption | (first | exact ⟨hM, FM.rf X⟩ | exact ⟨hME, hFE⟩))
set_option maxRecDepth 100000 in
set_option maxHeartbeats 4000000 in
theorem c_X12_drop_b1 {g : Gt} {α : AL} {ν : Nat → Nat → Bool} {X : XM} {h : AH} (hT : TR g α ν X h) {O : XM} (hO : WO O) (hM : RM O X) {b : Int} (hb : R31 b) (hn : ¬ (0 ≤ b ∧ b < nS O)) {a1 : Int} (ha1 : R31 a1) : Mu g α ν M_X12_drop 27 [.ref (α 40 0), .int (J b), .int (J a1)] h (some (.int (J (0)))) (fun X' => X' = xs X 40 0 0 1) := by
  refine mu_of rfl rfl (ls := [some (.ref (α 40 0)), some (.int (J b)), some (.int (J a1)), none, none]) rfl (Nat.le_of_ble_eq_true rfl) ?_
  show Ev g M_X12_drop 27 0 [some (.ref (α 40 0)), some (.int (J b)), some (.int (J a1)), none, none] [] h 0 0 (UQ g α ν (some (.int (J (0)))) (fun X' => X' = xs X 40 0 0 1))
  have q0 := rm_nC hM
  have q1 := wo_nC hO
  have q2 := rm_nS hM
  have q3 := wo_nS hO
  refine ev_ald0 1 dX12_drop_0 rfl ?_
  refine ev_ild1 2 dX12_drop_1 rfl ?_
  refine tc_V1 5 14 dX12_drop_2 lkv_X12_158 (tr40 hT) rfl rfl (by first | decide | omega) (Nat.le_of_ble_eq_true rfl) (isStudent_no hT hO hM hb hn) ?_
  refine tj_if_eq 16 8 dX12_drop_5 (by decide) rfl (by first | exact TR.rng hT _ _ _ | exact R31_of _ | exact bi_R _ | (constructor <;> omega)) (fun c5 => ?_) (fun c5 => ?_)
  · skip
    refine tj_iconst 17 dX12_drop_16 rfl ?_
    refine ev_goto 47 dX12_drop_17 (by decide) ?_
    refine ev_ist3 48 dX12_drop_47 rfl (by decide) rfl ?_
    refine ev_ald0 49 dX12_drop_48 rfl ?_
    refine ev_ild3 50 dX12_drop_49 rfl ?_
    refine tm_V1 53 14 dX12_drop_50 lkv_X12_144 (tr40 hT) rfl rfl (by first | decide | omega) (Nat.le_of_ble_eq_true rfl) (goes_n hT (by omega)) (fun h X1 hT hP50 => ?_)
    have hM1 := hM
    have hM : RM O X1 := by rw [hP50]; exact rm_th hM1 _
    have q0 := rm_nC hM
    have q2 := rm_nS hM
    refine tj_if_ne 58 56 dX12_drop_53 (by decide) rfl (by first | exact TR.rng hT _ _ _ | exact R31_of _ | exact bi_R _ | (constructor <;> omega)) (fun c53 => ?_) (fun c53 => ?_)
    · exact False.elim (by omega)
    · skip
      refine tj_iconst 57 dX12_drop_56 rfl ?_
      exact tz_retcU (by first | rfl | omega | exact bi_dt (by omega) | exact bi_df (by omega) | (skip)) (by first | decide | omega) hT (by assumption) rfl dX12_drop_57
  · exact False.elim (by omega)
set_option maxRecDepth 100000 in
set_option maxHeartbeats 4000000 in
theorem c_X12_drop_b2 {g : Gt} {α : AL} {ν : Nat → Nat → Bool} {X : XM} {h : AH} (hT : TR g α ν X h) {O : XM} (hO : WO O) (hM : RM O X) {s : Nat} (hs : (s : Int) < nS O) {b : Int} (hb : R31 b) (hn : ¬ (0 ≤ b ∧ b < nC O)) : Mu g α ν M_X12_drop 27 [.ref (α 40 0), .int (J (s : Int)), .int (J b)] h (some (.int (J (0)))) (fun X' => X' = xs X 40 0 0 1) := by
  refine mu_of rfl rfl (ls := [some (.ref (α 40 0)), some (.int (J (s : Int))), some (.int (J b)), none, none]) rfl (Nat.le_of_ble_eq_true rfl) ?_
  show Ev g M_X12_drop 27 0 [some (.ref (α 40 0)), some (.int (J (s : Int))), some (.int (J b)), none, none] [] h 0 0 (UQ g α ν (some (.int (J (0)))) (fun X' => X' = xs X 40 0 0 1))
  have q0 := rm_nC hM
  have q1 := wo_nC hO
  have q2 := rm_nS hM
  have q3 := wo_nS hO
  refine ev_ald0 1 dX12_drop_0 rfl ?_
  refine ev_ild1 2 dX12_drop_1 rfl ?_
  refine tc_V1 5 14 dX12_drop_2 lkv_X12_158 (tr40 hT) rfl rfl (by first | decide | omega) (Nat.le_of_ble_eq_true rfl) (isStudent_ok hT hO hM (by omega)) ?_
  refine tj_if_eq 16 8 dX12_drop_5 (by decide) rfl (by first | exact TR.rng hT _ _ _ | exact R31_of _ | exact bi_R _ | (constructor <;> omega)) (fun c5 => ?_) (fun c5 => ?_)
  · exact False.elim (by omega)
  · skip
    refine ev_ald0 9 dX12_drop_8 rfl ?_
    refine ev_ild2 10 dX12_drop_9 rfl ?_
    refine tc_V1 13 14 dX12_drop_10 lkv_X12_151 (tr40 hT) rfl rfl (by first | decide | omega) (Nat.le_of_ble_eq_true rfl) (isCourse_no hT hO hM hb hn) ?_
    refine tj_if_ne 20 16 dX12_drop_13 (by decide) rfl (by first | exact TR.rng hT _ _ _ | exact R31_of _ | exact bi_R _ | (constructor <;> omega)) (fun c13 => ?_) (fun c13 => ?_)
    · exact False.elim (by omega)
    · skip
      refine tj_iconst 17 dX12_drop_16 rfl ?_
      refine ev_goto 47 dX12_drop_17 (by decide) ?_
      refine ev_ist3 48 dX12_drop_47 rfl (by decide) rfl ?_
      refine ev_ald0 49 dX12_drop_48 rfl ?_
      refine ev_ild3 50 dX12_drop_49 rfl ?_
      refine tm_V1 53 14 dX12_drop_50 lkv_X12_144 (tr40 hT) rfl rfl (by first | decide | omega) (Nat.le_of_ble_eq_true rfl) (goes_n hT (by omega)) (fun h X1 hT hP50 => ?_)
      have hM1 := hM
      have hM : RM O X1 := by rw [hP50]; exact rm_th hM1 _
      have q0 := rm_nC hM
      have q2 := rm_nS hM
      refine tj_if_ne 58 56 dX12_drop_53 (by decide) rfl (by first | exact TR.rng hT _ _ _ | exact R31_of _ | exact bi_R _ | (constructor <;> omega)) (fun c53 => ?_) (fun c53 => ?_)
      · exact False.elim (by omega)
      · skip
        refine tj_iconst 57 dX12_drop_56 rfl ?_
        exact tz_retcU (by first | rfl | omega | exact bi_dt (by omega) | exact bi_df (by omega) | (skip)) (by first | decide | omega) hT (by assumption) rfl dX12_drop_57
set_option maxRecDepth 100000 in
set_option maxHeartbeats 4000000 in
theorem c_X12_drop_x2 {g : Gt} {α : AL} {ν : Nat → Nat → Bool} {X : XM} {h : AH} (hT : TR g α ν X h) {O : XM} (hO : WO O) (hM : RM O X) {s : Nat} (hs : (s : Int) < nS O) {c : Nat} (hc : (c : Int) < nC O) (htk : tak O s c = false) (hpl : place O c s = -1) : Mu g α ν M_X12_drop 27 [.ref (α 40 0), .int (J (s : Int)), .int (J (c : Int))] h (some (.int (J (0)))) (fun X' => X' = xs X 40 0 0 2) := by
  refine mu_of rfl rfl (ls := [some (.ref (α 40 0)), some (.int (J (s : Int))), some (.int (J (c : Int))), none, none]) rfl (Nat.le_of_ble_eq_true rfl) ?_
  show Ev g M_X12_drop 27 0 [some (.ref (α 40 0)), some (.int (J (s : Int))), some (.int (J (c : Int))), none, none] [] h 0 0 (UQ g α ν (some (.int (J (0)))) (fun X' => X' = xs X 40 0 0 2))
  have q0 := rm_nC hM
  have q1 := wo_nC hO
  have q2 := rm_nS hM
  have q3 := wo_nS hO
  refine ev_ald0 1 dX12_drop_0 rfl ?_
  refine ev_ild1 2 dX12_drop_1 rfl ?_
  refine tc_V1 5 14 dX12_drop_2 lkv_X12_158 (tr40 hT) rfl rfl (by first | decide | omega) (Nat.le_of_ble_eq_true rfl) (isStudent_ok hT hO hM (by omega)) ?_
  refine tj_if_eq 16 8 dX12_drop_5 (by decide) rfl (by first | exact TR.rng hT _ _ _ | exact R31_of _ | exact bi_R _ | (constructor <;> omega)) (fun c5 => ?_) (fun c5 => ?_)
  · exact False.elim (by omega)
  · skip
    refine ev_ald0 9 dX12_drop_8 rfl ?_
    refine ev_ild2 10 dX12_drop_9 rfl ?_
    refine tc_V1 13 14 dX12_drop_10 lkv_X12_151 (tr40 hT) rfl rfl (by first | decide | omega) (Nat.le_of_ble_eq_true rfl) (isCourse_ok hT hO hM (by omega)) ?_
    refine tj_if_ne 20 16 dX12_drop_13 (by decide) rfl (by first | exact TR.rng hT _ _ _ | exact R31_of _ | exact bi_R _ | (constructor <;> omega)) (fun c13 => ?_) (fun c13 => ?_)
    · skip
      refine ev_ald0 21 dX12_drop_20 rfl ?_
      refine ev_ild1 22 dX12_drop_21 rfl ?_
      refine ev_ild2 23 dX12_drop_22 rfl ?_
      refine tc_V2 26 14 dX12_drop_23 lkv_X12_205 (tr40 hT) rfl rfl (by first | decide | omega) (Nat.le_of_ble_eq_true rfl) (c_X12_isInOrWaits hT hO hM (by omega) (by omega)) ?_
      refine tb_if_ne 33 29 dX12_drop_26 (by decide) rfl (fun c26 => ?_) (fun c26 => ?_)
      · exact False.elim (by simp [htk, hpl] at c26)
      · skip
        refine tj_iconst 30 dX12_drop_29 rfl ?_
        refine ev_goto 47 dX12_drop_30 (by decide) ?_
        refine ev_ist3 48 dX12_drop_47 rfl (by decide) rfl ?_
        refine ev_ald0 49 dX12_drop_48 rfl ?_
        refine ev_ild3 50 dX12_drop_49 rfl ?_
        refine tm_V1 53 14 dX12_drop_50 lkv_X12_144 (tr40 hT) rfl rfl (by first | decide | omega) (Nat.le_of_ble_eq_true rfl) (goes_n hT (by omega)) (fun h X1 hT hP50 => ?_)
        have hM1 := hM
        have hM : RM O X1 := by rw [hP50]; exact rm_th hM1 _
        have q0 := rm_nC hM
        have q2 := rm_nS hM
        refine tj_if_ne 58 56 dX12_drop_53 (by decide) rfl (by first | exact TR.rng hT _ _ _ | exact R31_of _ | exact bi_R _ | (constructor <;> omega)) (fun c53 => ?_) (fun c53 => ?_)
        · exact False.elim (by omega)
        · skip
          refine tj_iconst 57 dX12_drop_56 rfl ?_
          exact tz_retcU (by first | rfl | omega | exact bi_dt (by omega) | exact bi_df (by omega) | (skip)) (by first | decide | omega) hT (by assumption) rfl dX12_drop_57
    · exact False.elim (by omega)
set_option maxRecDepth 100000 in
set_option maxHeartbeats 4000000 in
theorem c_X12_drop_x3 {g : Gt} {α : AL} {ν : Nat → Nat → Bool} {X : XM} {h : AH} (hT : TR g α ν X h) {O : XM} (hO : WO O) (hM : RM O X) {s : Nat} (hs : (s : Int) < nS O) {c : Nat} (hc : (c : Int) < nC O) (hin : tak O s c = true ∨ place O c s ≠ -1) (hd : 20 < O 0 0 5) : Mu g α ν M_X12_drop 27 [.ref (α 40 0), .int (J (s : Int)), .int (J (c : Int))] h (some (.int (J (0)))) (fun X' => X' = xs X 40 0 0 3) := by
  refine mu_of rfl rfl (ls := [some (.ref (α 40 0)), some (.int (J (s : Int))), some (.int (J (c : Int))), none, none]) rfl (Nat.le_of_ble_eq_true rfl) ?_
  show Ev g M_X12_drop 27 0 [some (.ref (α 40 0)), some (.int (J (s : Int))), some (.int (J (c : Int))), none, none] [] h 0 0 (UQ g α ν (some (.int (J (0)))) (fun X' => X' = xs X 40 0 0 3))
  have q0 := rm_nC hM
  have q1 := wo_nC hO
  have q2 := rm_nS hM
  have q3 := wo_nS hO
  have qd := rm_day hM
  refine ev_ald0 1 dX12_drop_0 rfl ?_
  refine ev_ild1 2 dX12_drop_1 rfl ?_
  refine tc_V1 5 14 dX12_drop_2 lkv_X12_158 (tr40 hT) rfl rfl (by first | decide | omega) (Nat.le_of_ble_eq_true rfl) (isStudent_ok hT hO hM (by omega)) ?_
  refine tj_if_eq 16 8 dX12_drop_5 (by decide) rfl (by first | exact TR.rng hT _ _ _ | exact R31_of _ | exact bi_R _ | (constructor <;> omega)) (fun c5 => ?_) (fun c5 => ?_)
  · exact False.elim (by omega)
  · skip
    refine ev_ald0 9 dX12_drop_8 rfl ?_
    refine ev_ild2 10 dX12_drop_9 rfl ?_
    refine tc_V1 13 14 dX12_drop_10 lkv_X12_151 (tr40 hT) rfl rfl (by first | decide | omega) (Nat.le_of_ble_eq_true rfl) (isCourse_ok hT hO hM (by omega)) ?_
    refine tj_if_ne 20 16 dX12_drop_13 (by decide) rfl (by first | exact TR.rng hT _ _ _ | exact R31_of _ | exact bi_R _ | (constructor <;> omega)) (fun c13 => ?_) (fun c13 => ?_)
    · skip
      refine ev_ald0 21 dX12_drop_20 rfl ?_
      refine ev_ild1 22 dX12_drop_21 rfl ?_
      refine ev_ild2 23 dX12_drop_22 rfl ?_
      refine tc_V2 26 14 dX12_drop_23 lkv_X12_205 (tr40 hT) rfl rfl (by first | decide | omega) (Nat.le_of_ble_eq_true rfl) (c_X12_isInOrWaits hT hO hM (by omega) (by omega)) ?_
      refine tb_if_ne 33 29 dX12_drop_26 (by decide) rfl (fun c26 => ?_) (fun c26 => ?_)
      · skip
        refine ev_ald0 34 dX12_drop_33 rfl ?_
        refine ev_getfield 37 14 1 fl_X12_164_14 (tr40 hT) rfl dX12_drop_34 rfl ?_
        refine tj_bipush 39 dX12_drop_37 (by decide) rfl ?_
        refine tj_icmp_le 46 42 dX12_drop_39 (by decide) rfl (by first | exact TR.rng hT _ _ _ | exact R31_of _ | exact bi_R _ | (constructor <;> omega)) (by first | exact TR.rng hT _ _ _ | exact R31_of _ | exact bi_R _ | (constructor <;> omega)) (fun c39 => ?_) (fun c39 => ?_)
        · exact False.elim (by omega)
        · skip
          refine tj_iconst 43 dX12_drop_42 rfl ?_
          refine ev_goto 47 dX12_drop_43 (by decide) ?_
          refine ev_ist3 48 dX12_drop_47 rfl (by decide) rfl ?_
          refine ev_ald0 49 dX12_drop_48 rfl ?_
          refine ev_ild3 50 dX12_drop_49 rfl ?_
          refine tm_V1 53 14 dX12_drop_50 lkv_X12_144 (tr40 hT) rfl rfl (by first | decide | omega) (Nat.le_of_ble_eq_true rfl) (goes_n hT (by omega)) (fun h X1 hT hP50 => ?_)
          have hM1 := hM
          have hM : RM O X1 := by rw [hP50]; exact rm_th hM1 _
          have q0 := rm_nC hM
          have q2 := rm_nS hM
          refine tj_if_ne 58 56 dX12_drop_53 (by decide) rfl (by first | exact TR.rng hT _ _ _ | exact R31_of _ | exact bi_R _ | (constructor <;> omega)) (fun c53 => ?_) (fun c53 => ?_)
          · exact False.elim (by omega)
          · skip
            refine tj_iconst 57 dX12_drop_56 rfl ?_
            exact tz_retcU (by first | rfl | omega | exact bi_dt (by omega) | exact bi_df (by omega) | (skip)) (by first | decide | omega) hT (by assumption) rfl dX12_drop_57
      · exact False.elim (by rcases hin with hin | hin <;> simp [hin] at c26)
    · exact False.elim (by omega)
set_option maxRecDepth 100000 in
set_option maxHeartbeats 4000000 in
theorem c_X12_drop_okt {g : Gt} {α : AL} {ν : Nat → Nat → Bool} {X : XM} {h : AH} (hT : TR g α ν X h) {O : XM} (hO : WO O) (hM : RM O X) {s : Nat} (hs : (s : Int) < nS O) {c : Nat} (hc : (c : Int) < nC O) (htk : tak O s c = true) (hd : O 0 0 5 ≤ 20) : Mu g α ν M_X12_drop 27 [.ref (α 40 0), .int (J (s : Int)), .int (J (c : Int))] h (some (.int (J (if 9 ≤ O 0 0 5 then 119 else 100)))) (fun X' => RM (gv (eO O s (c : Int))) X' ∧ CZ X X' 0) := by
  refine mu_of rfl rfl (ls := [some (.ref (α 40 0)), some (.int (J (s : Int))), some (.int (J (c : Int))), none, none]) rfl (Nat.le_of_ble_eq_true rfl) ?_
  show Ev g M_X12_drop 27 0 [some (.ref (α 40 0)), some (.int (J (s : Int))), some (.int (J (c : Int))), none, none] [] h 0 0 (UQ g α ν (some (.int (J (if 9 ≤ O 0 0 5 then 119 else 100)))) (fun X' => RM (gv (eO O s (c : Int))) X' ∧ CZ X X' 0))
  have q0 := rm_nC hM
  have q1 := wo_nC hO
  have q2 := rm_nS hM
  have q3 := wo_nS hO
  have qd := rm_day hM
  refine ev_ald0 1 dX12_drop_0 rfl ?_
  refine ev_ild1 2 dX12_drop_1 rfl ?_
  refine tc_V1 5 14 dX12_drop_2 lkv_X12_158 (tr40 hT) rfl rfl (by first | decide | omega) (Nat.le_of_ble_eq_true rfl) (isStudent_ok hT hO hM (by omega)) ?_
  refine tj_if_eq 16 8 dX12_drop_5 (by decide) rfl (by first | exact TR.rng hT _ _ _ | exact R31_of _ | exact bi_R _ | (constructor <;> omega)) (fun c5 => ?_) (fun c5 => ?_)
  · exact False.elim (by omega)
  · skip
    refine ev_ald0 9 dX12_drop_8 rfl ?_
    refine ev_ild2 10 dX12_drop_9 rfl ?_
    refine tc_V1 13 14 dX12_drop_10 lkv_X12_151 (tr40 hT) rfl rfl (by first | decide | omega) (Nat.le_of_ble_eq_true rfl) (isCourse_ok hT hO hM (by omega)) ?_
    refine tj_if_ne 20 16 dX12_drop_13 (by decide) rfl (by first | exact TR.rng hT _ _ _ | exact R31_of _ | exact bi_R _ | (constructor <;> omega)) (fun c13 => ?_) (fun c13 => ?_)
    · skip
      refine ev_ald0 21 dX12_drop_20 rfl ?_
      refine ev_ild1 22 dX12_drop_21 rfl ?_
      refine ev_ild2 23 dX12_drop_22 rfl ?_
      refine tc_V2 26 14 dX12_drop_23 lkv_X12_205 (tr40 hT) rfl rfl (by first | decide | omega) (Nat.le_of_ble_eq_true rfl) (c_X12_isInOrWaits hT hO hM (by omega) (by omega)) ?_
      refine tb_if_ne 33 29 dX12_drop_26 (by decide) rfl (fun c26 => ?_) (fun c26 => ?_)
      · skip
        refine ev_ald0 34 dX12_drop_33 rfl ?_
        refine ev_getfield 37 14 1 fl_X12_164_14 (tr40 hT) rfl dX12_drop_34 rfl ?_
        refine tj_bipush 39 dX12_drop_37 (by decide) rfl ?_
        refine tj_icmp_le 46 42 dX12_drop_39 (by decide) rfl (by first | exact TR.rng hT _ _ _ | exact R31_of _ | exact bi_R _ | (constructor <;> omega)) (by first | exact TR.rng hT _ _ _ | exact R31_of _ | exact bi_R _ | (constructor <;> omega)) (fun c39 => ?_) (fun c39 => ?_)
        · skip
          refine tj_iconst 47 dX12_drop_46 rfl ?_
          refine ev_ist3 48 dX12_drop_47 rfl (by decide) rfl ?_
          refine ev_ald0 49 dX12_drop_48 rfl ?_
          refine ev_ild3 50 dX12_drop_49 rfl ?_
          refine tm_V1 53 14 dX12_drop_50 lkv_X12_144 (tr40 hT) rfl rfl (by first | decide | omega) (Nat.le_of_ble_eq_true rfl) (goes_0 hT) (fun h X1 hT hP50 => ?_)
          have hM1 := hM
          have hM : RM O X1 := by rw [hP50]; exact rm_th hM1 _
          have q0 := rm_nC hM
          have q2 := rm_nS hM
          have hC0 : CZ X X1 0 := by rw [hP50]; exact CZ.go X 0
          refine tj_if_ne 58 56 dX12_drop_53 (by decide) rfl (by first | exact TR.rng hT _ _ _ | exact R31_of _ | exact bi_R _ | (constructor <;> omega)) (fun c53 => ?_) (fun c53 => ?_)
          · skip
            refine ev_ald0 59 dX12_drop_58 rfl ?_
            refine ev_getfield 62 14 12 fl_X12_31_14 (tr40 hT) rfl dX12_drop_59 rfl ?_
            refine ev_ild1 63 dX12_drop_62 rfl ?_
            refine tv_iald 64 (tr52 hT) (s) (by omega) (by omega) (by omega) dX12_drop_63 rfl ?_
            refine ev_ild2 65 dX12_drop_64 rfl ?_
            refine tc_S2 68 dX12_drop_65 lks_X12_106 rfl (by first | decide | omega) (Nat.le_of_ble_eq_true rfl) (has_of (rm_tak hM _ (by omega)) (by omega) rfl : Pr g M_X12_has 0 _ h (some (.int (J (bi (tak O _ _)))))) ?_
            refine ev_ist4 70 dX12_drop_68 rfl (by decide) rfl ?_
            refine ev_ild4 72 dX12_drop_70 rfl ?_
            refine tb_if_eq 84 75 dX12_drop_72 (by decide) rfl (fun c72 => ?_) (fun c72 => ?_)
            · exact False.elim (Bool.false_ne_true (c72.symm.trans htk))
            · skip
              refine ev_ald0 76 dX12_drop_75 rfl ?_
              refine ev_ild1 77 dX12_drop_76 rfl ?_
              refine ev_ild2 78 dX12_drop_77 rfl ?_
              refine tmv_V2 81 14 dX12_drop_78 lkv_X12_221 (tr40 hT) rfl rfl (by first | decide | omega) (Nat.le_of_ble_eq_true rfl) (c_X12_ends hT hO hM hs hc htk hd) (fun h X1 hT hP78 => ?_)
              have hME := hP78.1
              have hC1 := hC0.fm hP78.2
              refine ev_goto 95 dX12_drop_81 (by decide) ?_
              refine ev_ald0 96 dX12_drop_95 rfl ?_
              refine tmv_V0 99 14 dX12_drop_96 lkv_X12_193 (tr40 hT) rfl rfl (by first | decide | omega) (Nat.le_of_ble_eq_true rfl) (c_X12_givesOut hT (show WO (eO O s (c : Int)) from wo_eN 20 hO hs (Or.inr ⟨c, rfl, hc, htk⟩)) hME) (fun h X1 hT hP96 => ?_)
              have hC2 := hC1.fm hP96.2
              have hMG := hP96.1
              have edG := rm_day hMG
              rw [gv_k (by decide) (by decide) (by decide), eO_k (by decide) (by decide) (by decide) (by decide)] at edG
              refine ev_ild4 101 dX12_drop_99 rfl ?_
              refine tb_if_ne 109 104 dX12_drop_101 (by decide) rfl (fun c101 => ?_) (fun c101 => ?_)
              · skip
                refine ev_ald0 110 dX12_drop_109 rfl ?_
                refine ev_getfield 113 14 1 fl_X12_164_14 (tr40 hT) rfl dX12_drop_110 rfl ?_
                refine tj_bipush 115 dX12_drop_113 (by decide) rfl ?_
                refine tj_icmp_gt 123 118 dX12_drop_115 (by decide) rfl (by first | exact TR.rng hT _ _ _ | exact R31_of _ | exact bi_R _ | (constructor <;> omega)) (by first | exact TR.rng hT _ _ _ | exact R31_of _ | exact bi_R _ | (constructor <;> omega)) (fun c115 => ?_) (fun c115 => ?_)
                · skip
                  refine tj_bipush 125 dX12_drop_123 (by decide) rfl ?_
                  exact tz_retcU (by first | rfl | omega | exact bi_dt (by omega) | exact bi_df (by omega) | (first | (rw [if_pos (by omega)]; done) | (rw [if_neg (by omega)]; done))) (by first | decide | omega) hT (by exact ⟨hMG, hC2⟩) rfl dX12_drop_125
                · skip
                  refine tj_bipush 120 dX12_drop_118 (by decide) rfl ?_
                  refine ev_goto 125 dX12_drop_120 (by decide) ?_
                  exact tz_retcU (by first | rfl | omega | exact bi_dt (by omega) | exact bi_df (by omega) | (first | (rw [if_pos (by omega)]; done) | (rw [if_neg (by omega)]; done))) (by first | decide | omega) hT (by exact ⟨hMG, hC2⟩) rfl dX12_drop_125
              · exact False.elim (Bool.false_ne_true (c101.symm.trans htk))
          · exact False.elim (by omega)
        · exact False.elim (by omega)
      · exact False.elim (by simp [htk] at c26)
    · exact False.elim (by omega)
set_option maxRecDepth 100000 in
set_option maxHeartbeats 4000000 in
theorem c_X12_drop_okw {g : Gt} {α : AL} {ν : Nat → Nat → Bool} {X : XM} {h : AH} (hT : TR g α ν X h) {O : XM} (hO : WO O) (hM : RM O X) {s : Nat} (hs : (s : Int) < nS O) {c : Nat} (hc : (c : Int) < nC O) (htk : tak O s c = false) (hpl : place O c s ≠ -1) (hd : O 0 0 5 ≤ 20) : Mu g α ν M_X12_drop 27 [.ref (α 40 0), .int (J (s : Int)), .int (J (c : Int))] h (some (.int (J (108)))) (fun X' => RM (gv (lv O c (place O c s).toNat)) X' ∧ CZ X X' 0) := by
  refine mu_of rfl rfl (ls := [some (.ref (α 40 0)), some (.int (J (s : Int))), some (.int (J (c : Int))), none, none]) rfl (Nat.le_of_ble_eq_true rfl) ?_
  show Ev g M_X12_drop 27 0 [some (.ref (α 40 0)), some (.int (J (s : Int))), some (.int (J (c : Int))), none, none] [] h 0 0 (UQ g α ν (some (.int (J (108)))) (fun X' => RM (gv (lv O c (place O c s).toNat)) X' ∧ CZ X X' 0))
  have q0 := rm_nC hM
  have q1 := wo_nC hO
  have q2 := rm_nS hM
  have q3 := wo_nS hO
  have qd := rm_day hM
  have q5 := wo_wN hO c hc
  have q6 := place_R hO hc s
  have q7 := plc_R O c s (O 1 (4 + c) 2).toNat
  have q8 := rm_wN hM c hc
  obtain ⟨k, hk⟩ : ∃ k : Nat, place O c s = (k : Int) := ⟨(place O c s).toNat, by omega⟩
  have hk2 : (k : Int) < O 1 (4 + c) 2 := by have := q7.2; unfold place at hk; omega
  refine ev_ald0 1 dX12_drop_0 rfl ?_
  refine ev_ild1 2 dX12_drop_1 rfl ?_
  refine tc_V1 5 14 dX12_drop_2 lkv_X12_158 (tr40 hT) rfl rfl (by first | decide | omega) (Nat.le_of_ble_eq_true rfl) (isStudent_ok hT hO hM (by omega)) ?_
  refine tj_if_eq 16 8 dX12_drop_5 (by decide) rfl (by first | exact TR.rng hT _ _ _ | exact R31_of _ | exact bi_R _ | (constructor <;> omega)) (fun c5 => ?_) (fun c5 => ?_)
  · exact False.elim (by omega)
  · skip
    refine ev_ald0 9 dX12_drop_8 rfl ?_
    refine ev_ild2 10 dX12_drop_9 rfl ?_
    refine tc_V1 13 14 dX12_drop_10 lkv_X12_151 (tr40 hT) rfl rfl (by first | decide | omega) (Nat.le_of_ble_eq_true rfl) (isCourse_ok hT hO hM (by omega)) ?_
    refine tj_if_ne 20 16 dX12_drop_13 (by decide) rfl (by first | exact TR.rng hT _ _ _ | exact R31_of _ | exact bi_R _ | (constructor <;> omega)) (fun c13 => ?_) (fun c13 => ?_)
    · skip
      refine ev_ald0 21 dX12_drop_20 rfl ?_
      refine ev_ild1 22 dX12_drop_21 rfl ?_
      refine ev_ild2 23 dX12_drop_22 rfl ?_
      refine tc_V2 26 14 dX12_drop_23 lkv_X12_205 (tr40 hT) rfl rfl (by first | decide | omega) (Nat.le_of_ble_eq_true rfl) (c_X12_isInOrWaits hT hO hM (by omega) (by omega)) ?_
      refine tb_if_ne 33 29 dX12_drop_26 (by decide) rfl (fun c26 => ?_) (fun c26 => ?_)
      · skip
        refine ev_ald0 34 dX12_drop_33 rfl ?_
        refine ev_getfield 37 14 1 fl_X12_164_14 (tr40 hT) rfl dX12_drop_34 rfl ?_
        refine tj_bipush 39 dX12_drop_37 (by decide) rfl ?_
        refine tj_icmp_le 46 42 dX12_drop_39 (by decide) rfl (by first | exact TR.rng hT _ _ _ | exact R31_of _ | exact bi_R _ | (constructor <;> omega)) (by first | exact TR.rng hT _ _ _ | exact R31_of _ | exact bi_R _ | (constructor <;> omega)) (fun c39 => ?_) (fun c39 => ?_)
        · skip
          refine tj_iconst 47 dX12_drop_46 rfl ?_
          refine ev_ist3 48 dX12_drop_47 rfl (by decide) rfl ?_
          refine ev_ald0 49 dX12_drop_48 rfl ?_
          refine ev_ild3 50 dX12_drop_49 rfl ?_
          refine tm_V1 53 14 dX12_drop_50 lkv_X12_144 (tr40 hT) rfl rfl (by first | decide | omega) (Nat.le_of_ble_eq_true rfl) (goes_0 hT) (fun h X1 hT hP50 => ?_)
          have hM1 := hM
          have hM : RM O X1 := by rw [hP50]; exact rm_th hM1 _
          have q0 := rm_nC hM
          have q2 := rm_nS hM
          have hC0 : CZ X X1 0 := by rw [hP50]; exact CZ.go X 0
          have q9 : X1 48 0 c = X 48 0 c := by rw [hP50, xs_nk (by decide)]
          refine tj_if_ne 58 56 dX12_drop_53 (by decide) rfl (by first | exact TR.rng hT _ _ _ | exact R31_of _ | exact bi_R _ | (constructor <;> omega)) (fun c53 => ?_) (fun c53 => ?_)
          · skip
            refine ev_ald0 59 dX12_drop_58 rfl ?_
            refine ev_getfield 62 14 12 fl_X12_31_14 (tr40 hT) rfl dX12_drop_59 rfl ?_
            refine ev_ild1 63 dX12_drop_62 rfl ?_
            refine tv_iald 64 (tr52 hT) (s) (by omega) (by omega) (by omega) dX12_drop_63 rfl ?_
            refine ev_ild2 65 dX12_drop_64 rfl ?_
            refine tc_S2 68 dX12_drop_65 lks_X12_106 rfl (by first | decide | omega) (Nat.le_of_ble_eq_true rfl) (has_of (rm_tak hM _ (by omega)) (by omega) rfl : Pr g M_X12_has 0 _ h (some (.int (J (bi (tak O _ _)))))) ?_
            refine ev_ist4 70 dX12_drop_68 rfl (by decide) rfl ?_
            refine ev_ild4 72 dX12_drop_70 rfl ?_
            refine tb_if_eq 84 75 dX12_drop_72 (by decide) rfl (fun c72 => ?_) (fun c72 => ?_)
            · skip
              refine ev_ald0 85 dX12_drop_84 rfl ?_
              refine ev_ild2 86 dX12_drop_85 rfl ?_
              refine ev_ald0 87 dX12_drop_86 rfl ?_
              refine ev_ild2 88 dX12_drop_87 rfl ?_
              refine ev_ild1 89 dX12_drop_88 rfl ?_
              refine tc_V2 92 14 dX12_drop_89 lkv_X12_202 (tr40 hT) rfl rfl (by first | decide | omega) (Nat.le_of_ble_eq_true rfl) (c_X12_placeIn hT hO hM (by omega) (by omega)) ?_
              rw [hk]
              refine tmv_V2 95 14 dX12_drop_92 lkv_X12_182 (tr40 hT) rfl rfl (by first | decide | omega) (Nat.le_of_ble_eq_true rfl) (c_X12_leaves hT (c := c) (k := k) (by omega) (by omega) (by omega)) (fun h X1 hT hP92 => ?_)
              have hME : RM (lv O c k) X1 := rm_lv hM hO hc hk2 (fun kk _ _ q => hP92.1 kk q.1 q.2) hP92.2.1 hP92.2.2
              have hC1 : CZ X X1 0 := hC0.fm (fun kk q => hP92.1 kk (by omega) (by omega))
              refine ev_ald0 96 dX12_drop_95 rfl ?_
              refine tmv_V0 99 14 dX12_drop_96 lkv_X12_193 (tr40 hT) rfl rfl (by first | decide | omega) (Nat.le_of_ble_eq_true rfl) (c_X12_givesOut hT (wo_lv hO hc hk2) hME) (fun h X1 hT hP96 => ?_)
              have hC2 := hC1.fm hP96.2
              have hMG := hP96.1
              refine ev_ild4 101 dX12_drop_99 rfl ?_
              refine tb_if_ne 109 104 dX12_drop_101 (by decide) rfl (fun c101 => ?_) (fun c101 => ?_)
              · exact False.elim (Bool.false_ne_true (htk.symm.trans c101))
              · skip
                refine tj_bipush 106 dX12_drop_104 (by decide) rfl ?_
                refine ev_goto 125 dX12_drop_106 (by decide) ?_
                exact tz_retcU (by first | rfl | omega | exact bi_dt (by omega) | exact bi_df (by omega) | (skip)) (by first | decide | omega) hT (by rw [Int.toNat_natCast]; exact ⟨hMG, hC2⟩) rfl dX12_drop_125
            · exact False.elim (Bool.false_ne_true (htk.symm.trans c72))
          · exact False.elim (by omega)
        · exact False.elim (by omega)
      · exact False.elim (by simp [htk, hpl] at c26)
    · exact False.elim (by omega)
set_option maxRecDepth 100000 in
set_option maxHeartbeats 4000000 in
theorem c_X12_swapFault_b1 {g : Gt} {α : AL} {ν : Nat → Nat → Bool} {X : XM} {h : AH} (hT : TR g α ν X h) {O : XM} (hO : WO O) (hM : RM O X) {b : Int} (hb : R31 b) (hn : ¬ (0 ≤ b ∧ b < nS O)) {a1 : Int} (ha1 : R31 a1) {a2 : Int} (ha2 : R31 a2) : Pr g M_X12_swapFault 16 [.ref (α 40 0), .int (J b), .int (J a1), .int (J a2)] h (some (.int (J 1))) := by
  refine pr_of rfl rfl (ls := [some (.ref (α 40 0)), some (.int (J b)), some (.int (J a1)), some (.int (J a2))]) rfl (Nat.le_of_ble_eq_true rfl) ?_
  show Ev g M_X12_swapFault 16 0 [some (.ref (α 40 0)), some (.int (J b)), some (.int (J a1)), some (.int (J a2))] [] h 0 0 (PQ (some (.int (J 1))) h)
  have q0 := rm_nC hM
  have q1 := wo_nC hO
  have q2 := rm_nS hM
  have q3 := wo_nS hO
  have qd := rm_day hM
  refine ev_ald0 1 dX12_swapFault_0 rfl ?_
  refine ev_ild1 2 dX12_swapFault_1 rfl ?_
  refine tc_V1 5 14 dX12_swapFault_2 lkv_X12_158 (tr40 hT) rfl rfl (by first | decide | omega) (Nat.le_of_ble_eq_true rfl) (isStudent_no hT hO hM hb hn) ?_
  refine tj_if_eq 24 8 dX12_swapFault_5 (by decide) rfl (by first | exact TR.rng hT _ _ _ | exact R31_of _ | exact bi_R _ | (constructor <;> omega)) (fun c5 => ?_) (fun c5 => ?_)
  · skip
    refine tj_iconst 25 dX12_swapFault_24 rfl ?_
    exact ev_ireturn (pq_i (by first | rfl | omega | exact bi_dt (by omega) | exact bi_df (by omega) | (skip))) rfl dX12_swapFault_25
  · exact False.elim (by omega)
set_option maxRecDepth 100000 in
set_option maxHeartbeats 4000000 in
theorem c_X12_swap_b1 {g : Gt} {α : AL} {ν : Nat → Nat → Bool} {X : XM} {h : AH} (hT : TR g α ν X h) {O : XM} (hO : WO O) (hM : RM O X) {b : Int} (hb : R31 b) (hn : ¬ (0 ≤ b ∧ b < nS O)) {a1 : Int} (ha1 : R31 a1) {a2 : Int} (ha2 : R31 a2) : Mu g α ν M_X12_swap 27 [.ref (α 40 0), .int (J b), .int (J a1), .int (J a2)] h (some (.int (J (0)))) (fun X' => X' = xs X 40 0 0 1) := by
  refine mu_of rfl rfl (ls := [some (.ref (α 40 0)), some (.int (J b)), some (.int (J a1)), some (.int (J a2)), none, none]) rfl (Nat.le_of_ble_eq_true rfl) ?_
  show Ev g M_X12_swap 27 0 [some (.ref (α 40 0)), some (.int (J b)), some (.int (J a1)), some (.int (J a2)), none, none] [] h 0 0 (UQ g α ν (some (.int (J (0)))) (fun X' => X' = xs X 40 0 0 1))
  have q0 := rm_nC hM
  have q1 := wo_nC hO
  have q2 := rm_nS hM
  have q3 := wo_nS hO
  refine ev_ald0 1 dX12_swap_0 rfl ?_
  refine ev_ald0 2 dX12_swap_1 rfl ?_
  refine ev_ild1 3 dX12_swap_2 rfl ?_
  refine ev_ild2 4 dX12_swap_3 rfl ?_
  refine ev_ild3 5 dX12_swap_4 rfl ?_
  refine tc_V3 8 14 dX12_swap_5 lkv_X12_224 (tr40 hT) rfl rfl (by first | decide | omega) (Nat.le_of_ble_eq_true rfl) (c_X12_swapFault_b1 hT hO hM hb hn ha1 ha2) ?_
  refine tm_V1 11 14 dX12_swap_8 lkv_X12_144 (tr40 hT) rfl rfl (by first | decide | omega) (Nat.le_of_ble_eq_true rfl) (goes_n hT (by omega)) (fun h X1 hT hP8 => ?_)
  have hM1 := hM
  have hM : RM O X1 := by rw [hP8]; exact rm_th hM1 _
  have q0 := rm_nC hM
  have q2 := rm_nS hM
  refine tj_if_ne 16 14 dX12_swap_11 (by decide) rfl (by first | exact TR.rng hT _ _ _ | exact R31_of _ | exact bi_R _ | (constructor <;> omega)) (fun c11 => ?_) (fun c11 => ?_)
  · exact False.elim (by omega)
  · skip
    refine tj_iconst 15 dX12_swap_14 rfl ?_
    exact ev_ireturn (uq_i (by first | rfl | omega | exact bi_dt (by omega) | exact bi_df (by omega) | (skip)) hT (by assumption)) rfl dX12_swap_15
set_option maxRecDepth 100000 in
set_option maxHeartbeats 4000000 in
theorem c_X12_swapFault_b2 {g : Gt} {α : AL} {ν : Nat → Nat → Bool} {X : XM} {h : AH} (hT : TR g α ν X h) {O : XM} (hO : WO O) (hM : RM O X) {s : Nat} (hs : (s : Int) < nS O) {b : Int} (hb : R31 b) (hn : ¬ (0 ≤ b ∧ b < nC O)) {a2 : Int} (ha2 : R31 a2) : Pr g M_X12_swapFault 16 [.ref (α 40 0), .int (J (s : Int)), .int (J b), .int (J a2)] h (some (.int (J 1))) := by
  refine pr_of rfl rfl (ls := [some (.ref (α 40 0)), some (.int (J (s : Int))), some (.int (J b)), some (.int (J a2))]) rfl (Nat.le_of_ble_eq_true rfl) ?_
  show Ev g M_X12_swapFault 16 0 [some (.ref (α 40 0)), some (.int (J (s : Int))), some (.int (J b)), some (.int (J a2))] [] h 0 0 (PQ (some (.int (J 1))) h)
  have q0 := rm_nC hM
  have q1 := wo_nC hO
  have q2 := rm_nS hM
  have q3 := wo_nS hO
  have qd := rm_day hM
  refine ev_ald0 1 dX12_swapFault_0 rfl ?_
  refine ev_ild1 2 dX12_swapFault_1 rfl ?_
  refine tc_V1 5 14 dX12_swapFault_2 lkv_X12_158 (tr40 hT) rfl rfl (by first | decide | omega) (Nat.le_of_ble_eq_true rfl) (isStudent_ok hT hO hM (by omega)) ?_
  refine tj_if_eq 24 8 dX12_swapFault_5 (by decide) rfl (by first | exact TR.rng hT _ _ _ | exact R31_of _ | exact bi_R _ | (constructor <;> omega)) (fun c5 => ?_) (fun c5 => ?_)
  · exact False.elim (by omega)
  · skip
    refine ev_ald0 9 dX12_swapFault_8 rfl ?_
    refine ev_ild2 10 dX12_swapFault_9 rfl ?_
    refine tc_V1 13 14 dX12_swapFault_10 lkv_X12_151 (tr40 hT) rfl rfl (by first | decide | omega) (Nat.le_of_ble_eq_true rfl) (isCourse_no hT hO hM hb hn) ?_
    refine tj_if_eq 24 16 dX12_swapFault_13 (by decide) rfl (by first | exact TR.rng hT _ _ _ | exact R31_of _ | exact bi_R _ | (constructor <;> omega)) (fun c13 => ?_) (fun c13 => ?_)
    · skip
      refine tj_iconst 25 dX12_swapFault_24 rfl ?_
      exact ev_ireturn (pq_i (by first | rfl | omega | exact bi_dt (by omega) | exact bi_df (by omega) | (skip))) rfl dX12_swapFault_25
    · exact False.elim (by omega)
set_option maxRecDepth 100000 in
set_option maxHeartbeats 4000000 in
theorem c_X12_swap_b2 {g : Gt} {α : AL} {ν : Nat → Nat → Bool} {X : XM} {h : AH} (hT : TR g α ν X h) {O : XM} (hO : WO O) (hM : RM O X) {s : Nat} (hs : (s : Int) < nS O) {b : Int} (hb : R31 b) (hn : ¬ (0 ≤ b ∧ b < nC O)) {a2 : Int} (ha2 : R31 a2) : Mu g α ν M_X12_swap 27 [.ref (α 40 0), .int (J (s : Int)), .int (J b), .int (J a2)] h (some (.int (J (0)))) (fun X' => X' = xs X 40 0 0 1) := by
  refine mu_of rfl rfl (ls := [some (.ref (α 40 0)), some (.int (J (s : Int))), some (.int (J b)), some (.int (J a2)), none, none]) rfl (Nat.le_of_ble_eq_true rfl) ?_
  show Ev g M_X12_swap 27 0 [some (.ref (α 40 0)), some (.int (J (s : Int))), some (.int (J b)), some (.int (J a2)), none, none] [] h 0 0 (UQ g α ν (some (.int (J (0)))) (fun X' => X' = xs X 40 0 0 1))
  have q0 := rm_nC hM
  have q1 := wo_nC hO
  have q2 := rm_nS hM
  have q3 := wo_nS hO
  refine ev_ald0 1 dX12_swap_0 rfl ?_
  refine ev_ald0 2 dX12_swap_1 rfl ?_
  refine ev_ild1 3 dX12_swap_2 rfl ?_
  refine ev_ild2 4 dX12_swap_3 rfl ?_
  refine ev_ild3 5 dX12_swap_4 rfl ?_
  refine tc_V3 8 14 dX12_swap_5 lkv_X12_224 (tr40 hT) rfl rfl (by first | decide | omega) (Nat.le_of_ble_eq_true rfl) (c_X12_swapFault_b2 hT hO hM hs hb hn ha2) ?_
  refine tm_V1 11 14 dX12_swap_8 lkv_X12_144 (tr40 hT) rfl rfl (by first | decide | omega) (Nat.le_of_ble_eq_true rfl) (goes_n hT (by omega)) (fun h X1 hT hP8 => ?_)
  have hM1 := hM
  have hM : RM O X1 := by rw [hP8]; exact rm_th hM1 _
  have q0 := rm_nC hM
  have q2 := rm_nS hM
  refine tj_if_ne 16 14 dX12_swap_11 (by decide) rfl (by first | exact TR.rng hT _ _ _ | exact R31_of _ | exact bi_R _ | (constructor <;> omega)) (fun c11 => ?_) (fun c11 => ?_)
  · exact False.elim (by omega)
  · skip
    refine tj_iconst 15 dX12_swap_14 rfl ?_
    exact ev_ireturn (uq_i (by first | rfl | omega | exact bi_dt (by omega) | exact bi_df (by omega) | (skip)) hT (by assumption)) rfl dX12_swap_15
set_option maxRecDepth 100000 in
set_option maxHeartbeats 4000000 in
theorem c_X12_swapFault_b3 {g : Gt} {α : AL} {ν : Nat → Nat → Bool} {X : XM} {h : AH} (hT : TR g α ν X h) {O : XM} (hO : WO O) (hM : RM O X) {s : Nat} (hs : (s : Int) < nS O) {c : Nat} (hc : (c : Int) < nC O) {b : Int} (hb : R31 b) (hn : ¬ (0 ≤ b ∧ b < nC O)) : Pr g M_X12_swapFault 16 [.ref (α 40 0), .int (J (s : Int)), .int (J (c : Int)), .int (J b)] h (some (.int (J 1))) := by
  refine pr_of rfl rfl (ls := [some (.ref (α 40 0)), some (.int (J (s : Int))), some (.int (J (c : Int))), some (.int (J b))]) rfl (Nat.le_of_ble_eq_true rfl) ?_
  show Ev g M_X12_swapFault 16 0 [some (.ref (α 40 0)), some (.int (J (s : Int))), some (.int (J (c : Int))), some (.int (J b))] [] h 0 0 (PQ (some (.int (J 1))) h)
  have q0 := rm_nC hM
  have q1 := wo_nC hO
  have q2 := rm_nS hM
  have q3 := wo_nS hO
  have qd := rm_day hM
  refine ev_ald0 1 dX12_swapFault_0 rfl ?_
  refine ev_ild1 2 dX12_swapFault_1 rfl ?_
  refine tc_V1 5 14 dX12_swapFault_2 lkv_X12_158 (tr40 hT) rfl rfl (by first | decide | omega) (Nat.le_of_ble_eq_true rfl) (isStudent_ok hT hO hM (by omega)) ?_
  refine tj_if_eq 24 8 dX12_swapFault_5 (by decide) rfl (by first | exact TR.rng hT _ _ _ | exact R31_of _ | exact bi_R _ | (constructor <;> omega)) (fun c5 => ?_) (fun c5 => ?_)
  · exact False.elim (by omega)
  · skip
    refine ev_ald0 9 dX12_swapFault_8 rfl ?_
    refine ev_ild2 10 dX12_swapFault_9 rfl ?_
    refine tc_V1 13 14 dX12_swapFault_10 lkv_X12_151 (tr40 hT) rfl rfl (by first | decide | omega) (Nat.le_of_ble_eq_true rfl) (isCourse_ok hT hO hM (by omega)) ?_
    refine tj_if_eq 24 16 dX12_swapFault_13 (by decide) rfl (by first | exact TR.rng hT _ _ _ | exact R31_of _ | exact bi_R _ | (constructor <;> omega)) (fun c13 => ?_) (fun c13 => ?_)
    · exact False.elim (by omega)
    · skip
      refine ev_ald0 17 dX12_swapFault_16 rfl ?_
      refine ev_ild3 18 dX12_swapFault_17 rfl ?_
      refine tc_V1 21 14 dX12_swapFault_18 lkv_X12_151 (tr40 hT) rfl rfl (by first | decide | omega) (Nat.le_of_ble_eq_true rfl) (isCourse_no hT hO hM hb hn) ?_
      refine tj_if_ne 26 24 dX12_swapFault_21 (by decide) rfl (by first | exact TR.rng hT _ _ _ | exact R31_of _ | exact bi_R _ | (constructor <;> omega)) (fun c21 => ?_) (fun c21 => ?_)
      · exact False.elim (by omega)
      · skip
        refine tj_iconst 25 dX12_swapFault_24 rfl ?_
        exact ev_ireturn (pq_i (by first | rfl | omega | exact bi_dt (by omega) | exact bi_df (by omega) | (skip))) rfl dX12_swapFault_25
set_option maxRecDepth 100000 in
set_option maxHeartbeats 4000000 in
theorem c_X12_swap_b3 {g : Gt} {α : AL} {ν : Nat → Nat → Bool} {X : XM} {h : AH} (hT : TR g α ν X h) {O : XM} (hO : WO O) (hM : RM O X) {s : Nat} (hs : (s : Int) < nS O) {c : Nat} (hc : (c : Int) < nC O) {b : Int} (hb : R31 b) (hn : ¬ (0 ≤ b ∧ b < nC O)) : Mu g α ν M_X12_swap 27 [.ref (α 40 0), .int (J (s : Int)), .int (J (c : Int)), .int (J b)] h (some (.int (J (0)))) (fun X' => X' = xs X 40 0 0 1) := by
  refine mu_of rfl rfl (ls := [some (.ref (α 40 0)), some (.int (J (s : Int))), some (.int (J (c : Int))), some (.int (J b)), none, none]) rfl (Nat.le_of_ble_eq_true rfl) ?_
  show Ev g M_X12_swap 27 0 [some (.ref (α 40 0)), some (.int (J (s : Int))), some (.int (J (c : Int))), some (.int (J b)), none, none] [] h 0 0 (UQ g α ν (some (.int (J (0)))) (fun X' => X' = xs X 40 0 0 1))
  have q0 := rm_nC hM
  have q1 := wo_nC hO
  have q2 := rm_nS hM
  have q3 := wo_nS hO
  refine ev_ald0 1 dX12_swap_0 rfl ?_
  refine ev_ald0 2 dX12_swap_1 rfl ?_
  refine ev_ild1 3 dX12_swap_2 rfl ?_
  refine ev_ild2 4 dX12_swap_3 rfl ?_
  refine ev_ild3 5 dX12_swap_4 rfl ?_
  refine tc_V3 8 14 dX12_swap_5 lkv_X12_224 (tr40 hT) rfl rfl (by first | decide | omega) (Nat.le_of_ble_eq_true rfl) (c_X12_swapFault_b3 hT hO hM hs hc hb hn) ?_
  refine tm_V1 11 14 dX12_swap_8 lkv_X12_144 (tr40 hT) rfl rfl (by first | decide | omega) (Nat.le_of_ble_eq_true rfl) (goes_n hT (by omega)) (fun h X1 hT hP8 => ?_)
  have hM1 := hM
  have hM : RM O X1 := by rw [hP8]; exact rm_th hM1 _
  have q0 := rm_nC hM
  have q2 := rm_nS hM
  refine tj_if_ne 16 14 dX12_swap_11 (by decide) rfl (by first | exact TR.rng hT _ _ _ | exact R31_of _ | exact bi_R _ | (constructor <;> omega)) (fun c11 => ?_) (fun c11 => ?_)
  · exact False.elim (by omega)
  · skip
    refine tj_iconst 15 dX12_swap_14 rfl ?_
    exact ev_ireturn (uq_i (by first | rfl | omega | exact bi_dt (by omega) | exact bi_df (by omega) | (skip)) hT (by assumption)) rfl dX12_swap_15
set_option maxRecDepth 100000 in
set_option maxHeartbeats 4000000 in
theorem c_X12_swapFault_x2 {g : Gt} {α : AL} {ν : Nat → Nat → Bool} {X : XM} {h : AH} (hT : TR g α ν X h) {O : XM} (hO : WO O) (hM : RM O X) {s : Nat} (hs : (s : Int) < nS O) {c : Nat} (hc : (c : Int) < nC O) {t : Nat} (ht : (t : Int) < nC O) (hd : 5 < O 0 0 5) : Pr g M_X12_swapFault 16 [.ref (α 40 0), .int (J (s : Int)), .int (J (c : Int)), .int (J (t : Int))] h (some (.int (J 2))) := by
  refine pr_of rfl rfl (ls := [some (.ref (α 40 0)), some (.int (J (s : Int))), some (.int (J (c : Int))), some (.int (J (t : Int)))]) rfl (Nat.le_of_ble_eq_true rfl) ?_
  show Ev g M_X12_swapFault 16 0 [some (.ref (α 40 0)), some (.int (J (s : Int))), some (.int (J (c : Int))), some (.int (J (t : Int)))] [] h 0 0 (PQ (some (.int (J 2))) h)
  have q0 := rm_nC hM
  have q1 := wo_nC hO
  have q2 := rm_nS hM
  have q3 := wo_nS hO
  have qd := rm_day hM
  refine ev_ald0 1 dX12_swapFault_0 rfl ?_
  refine ev_ild1 2 dX12_swapFault_1 rfl ?_
  refine tc_V1 5 14 dX12_swapFault_2 lkv_X12_158 (tr40 hT) rfl rfl (by first | decide | omega) (Nat.le_of_ble_eq_true rfl) (isStudent_ok hT hO hM (by omega)) ?_
  refine tj_if_eq 24 8 dX12_swapFault_5 (by decide) rfl (by first | exact TR.rng hT _ _ _ | exact R31_of _ | exact bi_R _ | (constructor <;> omega)) (fun c5 => ?_) (fun c5 => ?_)
  · exact False.elim (by omega)
  · skip
    refine ev_ald0 9 dX12_swapFault_8 rfl ?_
    refine ev_ild2 10 dX12_swapFault_9 rfl ?_
    refine tc_V1 13 14 dX12_swapFault_10 lkv_X12_151 (tr40 hT) rfl rfl (by first | decide | omega) (Nat.le_of_ble_eq_true rfl) (isCourse_ok hT hO hM (by omega)) ?_
    refine tj_if_eq 24 16 dX12_swapFault_13 (by decide) rfl (by first | exact TR.rng hT _ _ _ | exact R31_of _ | exact bi_R _ | (constructor <;> omega)) (fun c13 => ?_) (fun c13 => ?_)
    · exact False.elim (by omega)
    · skip
      refine ev_ald0 17 dX12_swapFault_16 rfl ?_
      refine ev_ild3 18 dX12_swapFault_17 rfl ?_
      refine tc_V1 21 14 dX12_swapFault_18 lkv_X12_151 (tr40 hT) rfl rfl (by first | decide | omega) (Nat.le_of_ble_eq_true rfl) (isCourse_ok hT hO hM (by omega)) ?_
      refine tj_if_ne 26 24 dX12_swapFault_21 (by decide) rfl (by first | exact TR.rng hT _ _ _ | exact R31_of _ | exact bi_R _ | (constructor <;> omega)) (fun c21 => ?_) (fun c21 => ?_)
      · skip
        refine ev_ald0 27 dX12_swapFault_26 rfl ?_
        refine ev_getfield 30 14 1 fl_X12_164_14 (tr40 hT) rfl dX12_swapFault_27 rfl ?_
        refine tj_iconst 31 dX12_swapFault_30 rfl ?_
        refine tj_icmp_le 38 34 dX12_swapFault_31 (by decide) rfl (by first | exact TR.rng hT _ _ _ | exact R31_of _ | exact bi_R _ | (constructor <;> omega)) (by first | exact TR.rng hT _ _ _ | exact R31_of _ | exact bi_R _ | (constructor <;> omega)) (fun c31 => ?_) (fun c31 => ?_)
        · exact False.elim (by omega)
        · skip
          refine tj_iconst 35 dX12_swapFault_34 rfl ?_
          refine ev_goto 78 dX12_swapFault_35 (by decide) ?_
          exact ev_ireturn (pq_i (by first | rfl | omega | exact bi_dt (by omega) | exact bi_df (by omega) | (skip))) rfl dX12_swapFault_78
      · exact False.elim (by omega)
set_option maxRecDepth 100000 in
set_option maxHeartbeats 4000000 in
theorem c_X12_swap_x2 {g : Gt} {α : AL} {ν : Nat → Nat → Bool} {X : XM} {h : AH} (hT : TR g α ν X h) {O : XM} (hO : WO O) (hM : RM O X) {s : Nat} (hs : (s : Int) < nS O) {c : Nat} (hc : (c : Int) < nC O) {t : Nat} (ht : (t : Int) < nC O) (hd : 5 < O 0 0 5) : Mu g α ν M_X12_swap 27 [.ref (α 40 0), .int (J (s : Int)), .int (J (c : Int)), .int (J (t : Int))] h (some (.int (J (0)))) (fun X' => X' = xs X 40 0 0 2) := by
  refine mu_of rfl rfl (ls := [some (.ref (α 40 0)), some (.int (J (s : Int))), some (.int (J (c : Int))), some (.int (J (t : Int))), none, none]) rfl (Nat.le_of_ble_eq_true rfl) ?_
  show Ev g M_X12_swap 27 0 [some (.ref (α 40 0)), some (.int (J (s : Int))), some (.int (J (c : Int))), some (.int (J (t : Int))), none, none] [] h 0 0 (UQ g α ν (some (.int (J (0)))) (fun X' => X' = xs X 40 0 0 2))
  have q0 := rm_nC hM
  have q1 := wo_nC hO
  have q2 := rm_nS hM
  have q3 := wo_nS hO
  refine ev_ald0 1 dX12_swap_0 rfl ?_
  refine ev_ald0 2 dX12_swap_1 rfl ?_
  refine ev_ild1 3 dX12_swap_2 rfl ?_
  refine ev_ild2 4 dX12_swap_3 rfl ?_
  refine ev_ild3 5 dX12_swap_4 rfl ?_
  refine tc_V3 8 14 dX12_swap_5 lkv_X12_224 (tr40 hT) rfl rfl (by first | decide | omega) (Nat.le_of_ble_eq_true rfl) (c_X12_swapFault_x2 hT hO hM hs hc ht hd) ?_
  refine tm_V1 11 14 dX12_swap_8 lkv_X12_144 (tr40 hT) rfl rfl (by first | decide | omega) (Nat.le_of_ble_eq_true rfl) (goes_n hT (by omega)) (fun h X1 hT hP8 => ?_)
  have hM1 := hM
  have hM : RM O X1 := by rw [hP8]; exact rm_th hM1 _
  have q0 := rm_nC hM
  have q2 := rm_nS hM
  refine tj_if_ne 16 14 dX12_swap_11 (by decide) rfl (by first | exact TR.rng hT _ _ _ | exact R31_of _ | exact bi_R _ | (constructor <;> omega)) (fun c11 => ?_) (fun c11 => ?_)
  · exact False.elim (by omega)
  · skip
    refine tj_iconst 15 dX12_swap_14 rfl ?_
    exact ev_ireturn (uq_i (by first | rfl | omega | exact bi_dt (by omega) | exact bi_df (by omega) | (skip)) hT (by assumption)) rfl dX12_swap_15
set_option maxRecDepth 100000 in
set_option maxHeartbeats 4000000 in
theorem c_X12_swapFault_x3 {g : Gt} {α : AL} {ν : Nat → Nat → Bool} {X : XM} {h : AH} (hT : TR g α ν X h) {O : XM} (hO : WO O) (hM : RM O X) {s : Nat} (hs : (s : Int) < nS O) {c : Nat} (hc : (c : Int) < nC O) {t : Nat} (ht : (t : Int) < nC O) (hd : O 0 0 5 ≤ 5) (htk : tak O s c = false) : Pr g M_X12_swapFault 16 [.ref (α 40 0), .int (J (s : Int)), .int (J (c : Int)), .int (J (t : Int))] h (some (.int (J 3))) := by
  refine pr_of rfl rfl (ls := [some (.ref (α 40 0)), some (.int (J (s : Int))), some (.int (J (c : Int))), some (.int (J (t : Int)))]) rfl (Nat.le_of_ble_eq_true rfl) ?_
  show Ev g M_X12_swapFault 16 0 [some (.ref (α 40 0)), some (.int (J (s : Int))), some (.int (J (c : Int))), some (.int (J (t : Int)))] [] h 0 0 (PQ (some (.int (J 3))) h)
  have q0 := rm_nC hM
  have q1 := wo_nC hO
  have q2 := rm_nS hM
  have q3 := wo_nS hO
  have qd := rm_day hM
  refine ev_ald0 1 dX12_swapFault_0 rfl ?_
  refine ev_ild1 2 dX12_swapFault_1 rfl ?_
  refine tc_V1 5 14 dX12_swapFault_2 lkv_X12_158 (tr40 hT) rfl rfl (by first | decide | omega) (Nat.le_of_ble_eq_true rfl) (isStudent_ok hT hO hM (by omega)) ?_
  refine tj_if_eq 24 8 dX12_swapFault_5 (by decide) rfl (by first | exact TR.rng hT _ _ _ | exact R31_of _ | exact bi_R _ | (constructor <;> omega)) (fun c5 => ?_) (fun c5 => ?_)
  · exact False.elim (by omega)
  · skip
    refine ev_ald0 9 dX12_swapFault_8 rfl ?_
    refine ev_ild2 10 dX12_swapFault_9 rfl ?_
    refine tc_V1 13 14 dX12_swapFault_10 lkv_X12_151 (tr40 hT) rfl rfl (by first | decide | omega) (Nat.le_of_ble_eq_true rfl) (isCourse_ok hT hO hM (by omega)) ?_
    refine tj_if_eq 24 16 dX12_swapFault_13 (by decide) rfl (by first | exact TR.rng hT _ _ _ | exact R31_of _ | exact bi_R _ | (constructor <;> omega)) (fun c13 => ?_) (fun c13 => ?_)
    · exact False.elim (by omega)
    · skip
      refine ev_ald0 17 dX12_swapFault_16 rfl ?_
      refine ev_ild3 18 dX12_swapFault_17 rfl ?_
      refine tc_V1 21 14 dX12_swapFault_18 lkv_X12_151 (tr40 hT) rfl rfl (by first | decide | omega) (Nat.le_of_ble_eq_true rfl) (isCourse_ok hT hO hM (by omega)) ?_
      refine tj_if_ne 26 24 dX12_swapFault_21 (by decide) rfl (by first | exact TR.rng hT _ _ _ | exact R31_of _ | exact bi_R _ | (constructor <;> omega)) (fun c21 => ?_) (fun c21 => ?_)
      · skip
        refine ev_ald0 27 dX12_swapFault_26 rfl ?_
        refine ev_getfield 30 14 1 fl_X12_164_14 (tr40 hT) rfl dX12_swapFault_27 rfl ?_
        refine tj_iconst 31 dX12_swapFault_30 rfl ?_
        refine tj_icmp_le 38 34 dX12_swapFault_31 (by decide) rfl (by first | exact TR.rng hT _ _ _ | exact R31_of _ | exact bi_R _ | (constructor <;> omega)) (by first | exact TR.rng hT _ _ _ | exact R31_of _ | exact bi_R _ | (constructor <;> omega)) (fun c31 => ?_) (fun c31 => ?_)
        · skip
          refine ev_ald0 39 dX12_swapFault_38 rfl ?_
          refine ev_getfield 42 14 12 fl_X12_31_14 (tr40 hT) rfl dX12_swapFault_39 rfl ?_
          refine ev_ild1 43 dX12_swapFault_42 rfl ?_
          refine tv_iald 44 (tr52 hT) (s) (by omega) (by omega) (by omega) dX12_swapFault_43 rfl ?_
          refine ev_ild2 45 dX12_swapFault_44 rfl ?_
          refine tc_S2 48 dX12_swapFault_45 lks_X12_106 rfl (by first | decide | omega) (Nat.le_of_ble_eq_true rfl) (has_of (rm_tak hM _ (by omega)) (by omega) rfl : Pr g M_X12_has 0 _ h (some (.int (J (bi (tak O _ _)))))) ?_
          refine tb_if_ne 55 51 dX12_swapFault_48 (by decide) rfl (fun c48 => ?_) (fun c48 => ?_)
          · exact False.elim (Bool.false_ne_true (htk.symm.trans c48))
          · skip
            refine tj_iconst 52 dX12_swapFault_51 rfl ?_
            refine ev_goto 78 dX12_swapFault_52 (by decide) ?_
            exact ev_ireturn (pq_i (by first | rfl | omega | exact bi_dt (by omega) | exact bi_df (by omega) | (skip))) rfl dX12_swapFault_78
        · exact False.elim (by omega)
      · exact False.elim (by omega)
set_option maxRecDepth 100000 in
set_option maxHeartbeats 4000000 in
theorem c_X12_swap_x3 {g : Gt} {α : AL} {ν : Nat → Nat → Bool} {X : XM} {h : AH} (hT : TR g α ν X h) {O : XM} (hO : WO O) (hM : RM O X) {s : Nat} (hs : (s : Int) < nS O) {c : Nat} (hc : (c : Int) < nC O) {t : Nat} (ht : (t : Int) < nC O) (hd : O 0 0 5 ≤ 5) (htk : tak O s c = false) : Mu g α ν M_X12_swap 27 [.ref (α 40 0), .int (J (s : Int)), .int (J (c : Int)), .int (J (t : Int))] h (some (.int (J (0)))) (fun X' => X' = xs X 40 0 0 3) := by
  refine mu_of rfl rfl (ls := [some (.ref (α 40 0)), some (.int (J (s : Int))), some (.int (J (c : Int))), some (.int (J (t : Int))), none, none]) rfl (Nat.le_of_ble_eq_true rfl) ?_
  show Ev g M_X12_swap 27 0 [some (.ref (α 40 0)), some (.int (J (s : Int))), some (.int (J (c : Int))), some (.int (J (t : Int))), none, none] [] h 0 0 (UQ g α ν (some (.int (J (0)))) (fun X' => X' = xs X 40 0 0 3))
  have q0 := rm_nC hM
  have q1 := wo_nC hO
  have q2 := rm_nS hM
  have q3 := wo_nS hO
  refine ev_ald0 1 dX12_swap_0 rfl ?_
  refine ev_ald0 2 dX12_swap_1 rfl ?_
  refine ev_ild1 3 dX12_swap_2 rfl ?_
  refine ev_ild2 4 dX12_swap_3 rfl ?_
  refine ev_ild3 5 dX12_swap_4 rfl ?_
  refine tc_V3 8 14 dX12_swap_5 lkv_X12_224 (tr40 hT) rfl rfl (by first | decide | omega) (Nat.le_of_ble_eq_true rfl) (c_X12_swapFault_x3 hT hO hM hs hc ht hd htk) ?_
  refine tm_V1 11 14 dX12_swap_8 lkv_X12_144 (tr40 hT) rfl rfl (by first | decide | omega) (Nat.le_of_ble_eq_true rfl) (goes_n hT (by omega)) (fun h X1 hT hP8 => ?_)
  have hM1 := hM
  have hM : RM O X1 := by rw [hP8]; exact rm_th hM1 _
  have q0 := rm_nC hM
  have q2 := rm_nS hM
  refine tj_if_ne 16 14 dX12_swap_11 (by decide) rfl (by first | exact TR.rng hT _ _ _ | exact R31_of _ | exact bi_R _ | (constructor <;> omega)) (fun c11 => ?_) (fun c11 => ?_)
  · exact False.elim (by omega)
  · skip
    refine tj_iconst 15 dX12_swap_14 rfl ?_
    exact ev_ireturn (uq_i (by first | rfl | omega | exact bi_dt (by omega) | exact bi_df (by omega) | (skip)) hT (by assumption)) rfl dX12_swap_15
set_option maxRecDepth 100000 in
set_option maxHeartbeats 4000000 in
theorem c_X12_swapFault_x4 {g : Gt} {α : AL} {ν : Nat → Nat → Bool} {X : XM} {h : AH} (hT : TR g α ν X h) {O : XM} (hO : WO O) (hM : RM O X) {s : Nat} (hs : (s : Int) < nS O) {c : Nat} (hc : (c : Int) < nC O) {t : Nat} (ht : (t : Int) < nC O) (hd : O 0 0 5 ≤ 5) (htk : tak O s c = true) (hm : c = t ∨ tak O s t = true) : Pr g M_X12_swapFault 16 [.ref (α 40 0), .int (J (s : Int)), .int (J (c : Int)), .int (J (t : Int))] h (some (.int (J 4))) := by
  refine pr_of rfl rfl (ls := [some (.ref (α 40 0)), some (.int (J (s : Int))), some (.int (J (c : Int))), some (.int (J (t : Int)))]) rfl (Nat.le_of_ble_eq_true rfl) ?_
  show Ev g M_X12_swapFault 16 0 [some (.ref (α 40 0)), some (.int (J (s : Int))), some (.int (J (c : Int))), some (.int (J (t : Int)))] [] h 0 0 (PQ (some (.int (J 4))) h)
  have q0 := rm_nC hM
  have q1 := wo_nC hO
  have q2 := rm_nS hM
  have q3 := wo_nS hO
  have qd := rm_day hM
  refine ev_ald0 1 dX12_swapFault_0 rfl ?_
  refine ev_ild1 2 dX12_swapFault_1 rfl ?_
  refine tc_V1 5 14 dX12_swapFault_2 lkv_X12_158 (tr40 hT) rfl rfl (by first | decide | omega) (Nat.le_of_ble_eq_true rfl) (isStudent_ok hT hO hM (by omega)) ?_
  refine tj_if_eq 24 8 dX12_swapFault_5 (by decide) rfl (by first | exact TR.rng hT _ _ _ | exact R31_of _ | exact bi_R _ | (constructor <;> omega)) (fun c5 => ?_) (fun c5 => ?_)
  · exact False.elim (by omega)
  · skip
    refine ev_ald0 9 dX12_swapFault_8 rfl ?_
    refine ev_ild2 10 dX12_swapFault_9 rfl ?_
    refine tc_V1 13 14 dX12_swapFault_10 lkv_X12_151 (tr40 hT) rfl rfl (by first | decide | omega) (Nat.le_of_ble_eq_true rfl) (isCourse_ok hT hO hM (by omega)) ?_
    refine tj_if_eq 24 16 dX12_swapFault_13 (by decide) rfl (by first | exact TR.rng hT _ _ _ | exact R31_of _ | exact bi_R _ | (constructor <;> omega)) (fun c13 => ?_) (fun c13 => ?_)
    · exact False.elim (by omega)
    · skip
      refine ev_ald0 17 dX12_swapFault_16 rfl ?_
      refine ev_ild3 18 dX12_swapFault_17 rfl ?_
      refine tc_V1 21 14 dX12_swapFault_18 lkv_X12_151 (tr40 hT) rfl rfl (by first | decide | omega) (Nat.le_of_ble_eq_true rfl) (isCourse_ok hT hO hM (by omega)) ?_
      refine tj_if_ne 26 24 dX12_swapFault_21 (by decide) rfl (by first | exact TR.rng hT _ _ _ | exact R31_of _ | exact bi_R _ | (constructor <;> omega)) (fun c21 => ?_) (fun c21 => ?_)
      · skip
        refine ev_ald0 27 dX12_swapFault_26 rfl ?_
        refine ev_getfield 30 14 1 fl_X12_164_14 (tr40 hT) rfl dX12_swapFault_27 rfl ?_
        refine tj_iconst 31 dX12_swapFault_30 rfl ?_
        refine tj_icmp_le 38 34 dX12_swapFault_31 (by decide) rfl (by first | exact TR.rng hT _ _ _ | exact R31_of _ | exact bi_R _ | (constructor <;> omega)) (by first | exact TR.rng hT _ _ _ | exact R31_of _ | exact bi_R _ | (constructor <;> omega)) (fun c31 => ?_) (fun c31 => ?_)
        · skip
          refine ev_ald0 39 dX12_swapFault_38 rfl ?_
          refine ev_getfield 42 14 12 fl_X12_31_14 (tr40 hT) rfl dX12_swapFault_39 rfl ?_
          refine ev_ild1 43 dX12_swapFault_42 rfl ?_
          refine tv_iald 44 (tr52 hT) (s) (by omega) (by omega) (by omega) dX12_swapFault_43 rfl ?_
          refine ev_ild2 45 dX12_swapFault_44 rfl ?_
          refine tc_S2 48 dX12_swapFault_45 lks_X12_106 rfl (by first | decide | omega) (Nat.le_of_ble_eq_true rfl) (has_of (rm_tak hM _ (by omega)) (by omega) rfl : Pr g M_X12_has 0 _ h (some (.int (J (bi (tak O _ _)))))) ?_
          refine tb_if_ne 55 51 dX12_swapFault_48 (by decide) rfl (fun c48 => ?_) (fun c48 => ?_)
          · skip
            refine ev_ald0 56 dX12_swapFault_55 rfl ?_
            refine ev_getfield 59 14 12 fl_X12_31_14 (tr40 hT) rfl dX12_swapFault_56 rfl ?_
            refine ev_ild1 60 dX12_swapFault_59 rfl ?_
            refine tv_iald 61 (tr52 hT) (s) (by omega) (by omega) (by omega) dX12_swapFault_60 rfl ?_
            refine ev_ild3 62 dX12_swapFault_61 rfl ?_
            refine tc_S2 65 dX12_swapFault_62 lks_X12_106 rfl (by first | decide | omega) (Nat.le_of_ble_eq_true rfl) (has_of (rm_tak hM _ (by omega)) (by omega) rfl : Pr g M_X12_has 0 _ h (some (.int (J (bi (tak O _ _)))))) ?_
            refine tb_if_ne 73 68 dX12_swapFault_65 (by decide) rfl (fun c65 => ?_) (fun c65 => ?_)
            · skip
              refine tj_iconst 74 dX12_swapFault_73 rfl ?_
              refine ev_goto 78 dX12_swapFault_74 (by decide) ?_
              exact ev_ireturn (pq_i (by first | rfl | omega | exact bi_dt (by omega) | exact bi_df (by omega) | (skip))) rfl dX12_swapFault_78
            · skip
              refine ev_ild2 69 dX12_swapFault_68 rfl ?_
              refine ev_ild3 70 dX12_swapFault_69 rfl ?_
              refine tj_icmp_ne 77 73 dX12_swapFault_70 (by decide) rfl (by first | exact TR.rng hT _ _ _ | exact R31_of _ | exact bi_R _ | (constructor <;> omega)) (by first | exact TR.rng hT _ _ _ | exact R31_of _ | exact bi_R _ | (constructor <;> omega)) (fun c70 => ?_) (fun c70 => ?_)
              · exact False.elim (by rcases hm with hm | hm; omega; exact Bool.false_ne_true (c65.symm.trans hm))
              · skip
                refine tj_iconst 74 dX12_swapFault_73 rfl ?_
                refine ev_goto 78 dX12_swapFault_74 (by decide) ?_
                exact ev_ireturn (pq_i (by first | rfl | omega | exact bi_dt (by omega) | exact bi_df (by omega) | (skip))) rfl dX12_swapFault_78
          · exact False.elim (Bool.false_ne_true (c48.symm.trans htk))
        · exact False.elim (by omega)
      · exact False.elim (by omega)
set_option maxRecDepth 100000 in
set_option maxHeartbeats 4000000 in
theorem c_X12_swap_x4 {g : Gt} {α : AL} {ν : Nat → Nat → Bool} {X : XM} {h : AH} (hT : TR g α ν X h) {O : XM} (hO : WO O) (hM : RM O X) {s : Nat} (hs : (s : Int) < nS O) {c : Nat} (hc : (c : Int) < nC O) {t : Nat} (ht : (t : Int) < nC O) (hd : O 0 0 5 ≤ 5) (htk : tak O s c = true) (hm : c = t ∨ tak O s t = true) : Mu g α ν M_X12_swap 27 [.ref (α 40 0), .int (J (s : Int)), .int (J (c : Int)), .int (J (t : Int))] h (some (.int (J (0)))) (fun X' => X' = xs X 40 0 0 4) := by
  refine mu_of rfl rfl (ls := [some (.ref (α 40 0)), some (.int (J (s : Int))), some (.int (J (c : Int))), some (.int (J (t : Int))), none, none]) rfl (Nat.le_of_ble_eq_true rfl) ?_
  show Ev g M_X12_swap 27 0 [some (.ref (α 40 0)), some (.int (J (s : Int))), some (.int (J (c : Int))), some (.int (J (t : Int))), none, none] [] h 0 0 (UQ g α ν (some (.int (J (0)))) (fun X' => X' = xs X 40 0 0 4))
  have q0 := rm_nC hM
  have q1 := wo_nC hO
  have q2 := rm_nS hM
  have q3 := wo_nS hO
  refine ev_ald0 1 dX12_swap_0 rfl ?_
  refine ev_ald0 2 dX12_swap_1 rfl ?_
  refine ev_ild1 3 dX12_swap_2 rfl ?_
  refine ev_ild2 4 dX12_swap_3 rfl ?_
  refine ev_ild3 5 dX12_swap_4 rfl ?_
  refine tc_V3 8 14 dX12_swap_5 lkv_X12_224 (tr40 hT) rfl rfl (by first | decide | omega) (Nat.le_of_ble_eq_true rfl) (c_X12_swapFault_x4 hT hO hM hs hc ht hd htk hm) ?_
  refine tm_V1 11 14 dX12_swap_8 lkv_X12_144 (tr40 hT) rfl rfl (by first | decide | omega) (Nat.le_of_ble_eq_true rfl) (goes_n hT (by omega)) (fun h X1 hT hP8 => ?_)
  have hM1 := hM
  have hM : RM O X1 := by rw [hP8]; exact rm_th hM1 _
  have q0 := rm_nC hM
  have q2 := rm_nS hM
  refine tj_if_ne 16 14 dX12_swap_11 (by decide) rfl (by first | exact TR.rng hT _ _ _ | exact R31_of _ | exact bi_R _ | (constructor <;> omega)) (fun c11 => ?_) (fun c11 => ?_)
  · exact False.elim (by omega)
  · skip
    refine tj_iconst 15 dX12_swap_14 rfl ?_
    exact ev_ireturn (uq_i (by first | rfl | omega | exact bi_dt (by omega) | exact bi_df (by omega) | (skip)) hT (by assumption)) rfl dX12_swap_15
set_option maxRecDepth 100000 in
set_option maxHeartbeats 4000000 in
theorem c_X12_swapFault_ok {g : Gt} {α : AL} {ν : Nat → Nat → Bool} {X : XM} {h : AH} (hT : TR g α ν X h) {O : XM} (hO : WO O) (hM : RM O X) {s : Nat} (hs : (s : Int) < nS O) {c : Nat} (hc : (c : Int) < nC O) {t : Nat} (ht : (t : Int) < nC O) (hd : O 0 0 5 ≤ 5) (htk : tak O s c = true) (hct : ¬ c = t) (htt : tak O s t = false) : Pr g M_X12_swapFault 16 [.ref (α 40 0), .int (J (s : Int)), .int (J (c : Int)), .int (J (t : Int))] h (some (.int (J 0))) := by
  refine pr_of rfl rfl (ls := [some (.ref (α 40 0)), some (.int (J (s : Int))), some (.int (J (c : Int))), some (.int (J (t : Int)))]) rfl (Nat.le_of_ble_eq_true rfl) ?_
  show Ev g M_X12_swapFault 16 0 [some (.ref (α 40 0)), some (.int (J (s : Int))), some (.int (J (c : Int))), some (.int (J (t : Int)))] [] h 0 0 (PQ (some (.int (J 0))) h)
  have q0 := rm_nC hM
  have q1 := wo_nC hO
  have q2 := rm_nS hM
  have q3 := wo_nS hO
  have qd := rm_day hM
  refine ev_ald0 1 dX12_swapFault_0 rfl ?_
  refine ev_ild1 2 dX12_swapFault_1 rfl ?_
  refine tc_V1 5 14 dX12_swapFault_2 lkv_X12_158 (tr40 hT) rfl rfl (by first | decide | omega) (Nat.le_of_ble_eq_true rfl) (isStudent_ok hT hO hM (by omega)) ?_
  refine tj_if_eq 24 8 dX12_swapFault_5 (by decide) rfl (by first | exact TR.rng hT _ _ _ | exact R31_of _ | exact bi_R _ | (constructor <;> omega)) (fun c5 => ?_) (fun c5 => ?_)
  · exact False.elim (by omega)
  · skip
    refine ev_ald0 9 dX12_swapFault_8 rfl ?_
    refine ev_ild2 10 dX12_swapFault_9 rfl ?_
    refine tc_V1 13 14 dX12_swapFault_10 lkv_X12_151 (tr40 hT) rfl rfl (by first | decide | omega) (Nat.le_of_ble_eq_true rfl) (isCourse_ok hT hO hM (by omega)) ?_
    refine tj_if_eq 24 16 dX12_swapFault_13 (by decide) rfl (by first | exact TR.rng hT _ _ _ | exact R31_of _ | exact bi_R _ | (constructor <;> omega)) (fun c13 => ?_) (fun c13 => ?_)
    · exact False.elim (by omega)
    · skip
      refine ev_ald0 17 dX12_swapFault_16 rfl ?_
      refine ev_ild3 18 dX12_swapFault_17 rfl ?_
      refine tc_V1 21 14 dX12_swapFault_18 lkv_X12_151 (tr40 hT) rfl rfl (by first | decide | omega) (Nat.le_of_ble_eq_true rfl) (isCourse_ok hT hO hM (by omega)) ?_
      refine tj_if_ne 26 24 dX12_swapFault_21 (by decide) rfl (by first | exact TR.rng hT _ _ _ | exact R31_of _ | exact bi_R _ | (constructor <;> omega)) (fun c21 => ?_) (fun c21 => ?_)
      · skip
        refine ev_ald0 27 dX12_swapFault_26 rfl ?_
        refine ev_getfield 30 14 1 fl_X12_164_14 (tr40 hT) rfl dX12_swapFault_27 rfl ?_
        refine tj_iconst 31 dX12_swapFault_30 rfl ?_
        refine tj_icmp_le 38 34 dX12_swapFault_31 (by decide) rfl (by first | exact TR.rng hT _ _ _ | exact R31_of _ | exact bi_R _ | (constructor <;> omega)) (by first | exact TR.rng hT _ _ _ | exact R31_of _ | exact bi_R _ | (constructor <;> omega)) (fun c31 => ?_) (fun c31 => ?_)
        · skip
          refine ev_ald0 39 dX12_swapFault_38 rfl ?_
          refine ev_getfield 42 14 12 fl_X12_31_14 (tr40 hT) rfl dX12_swapFault_39 rfl ?_
          refine ev_ild1 43 dX12_swapFault_42 rfl ?_
          refine tv_iald 44 (tr52 hT) (s) (by omega) (by omega) (by omega) dX12_swapFault_43 rfl ?_
          refine ev_ild2 45 dX12_swapFault_44 rfl ?_
          refine tc_S2 48 dX12_swapFault_45 lks_X12_106 rfl (by first | decide | omega) (Nat.le_of_ble_eq_true rfl) (has_of (rm_tak hM _ (by omega)) (by omega) rfl : Pr g M_X12_has 0 _ h (some (.int (J (bi (tak O _ _)))))) ?_
          refine tb_if_ne 55 51 dX12_swapFault_48 (by decide) rfl (fun c48 => ?_) (fun c48 => ?_)
          · skip
            refine ev_ald0 56 dX12_swapFault_55 rfl ?_
            refine ev_getfield 59 14 12 fl_X12_31_14 (tr40 hT) rfl dX12_swapFault_56 rfl ?_
            refine ev_ild1 60 dX12_swapFault_59 rfl ?_
            refine tv_iald 61 (tr52 hT) (s) (by omega) (by omega) (by omega) dX12_swapFault_60 rfl ?_
            refine ev_ild3 62 dX12_swapFault_61 rfl ?_
            refine tc_S2 65 dX12_swapFault_62 lks_X12_106 rfl (by first | decide | omega) (Nat.le_of_ble_eq_true rfl) (has_of (rm_tak hM _ (by omega)) (by omega) rfl : Pr g M_X12_has 0 _ h (some (.int (J (bi (tak O _ _)))))) ?_
            refine tb_if_ne 73 68 dX12_swapFault_65 (by decide) rfl (fun c65 => ?_) (fun c65 => ?_)
            · exact False.elim (Bool.false_ne_true (htt.symm.trans c65))
            · skip
              refine ev_ild2 69 dX12_swapFault_68 rfl ?_
              refine ev_ild3 70 dX12_swapFault_69 rfl ?_
              refine tj_icmp_ne 77 73 dX12_swapFault_70 (by decide) rfl (by first | exact TR.rng hT _ _ _ | exact R31_of _ | exact bi_R _ | (constructor <;> omega)) (by first | exact TR.rng hT _ _ _ | exact R31_of _ | exact bi_R _ | (constructor <;> omega)) (fun c70 => ?_) (fun c70 => ?_)
              · skip
                refine tj_iconst 78 dX12_swapFault_77 rfl ?_
                exact ev_ireturn (pq_i (by first | rfl | omega | exact bi_dt (by omega) | exact bi_df (by omega) | (skip))) rfl dX12_swapFault_78
              · exact False.elim (by omega)
          · exact False.elim (Bool.false_ne_true (c48.symm.trans htk))
        · exact False.elim (by omega)
      · exact False.elim (by omega)
theorem cM_tak {g : Gt} {α : AL} {ν : Nat → Nat → Bool} {X : XM} {h : AH} (hT : TR g α ν X h) {O : XM} (hO : WO O) (hM : RM O X) {s : Nat} (hs : (s : Int) < nS O) : Pr g M_X12_creditsOf 1 [.ref (α 40 0), .int (J (X 52 0 s))] h (some (.int (J (load O s)))) := c_X12_creditsOf hT hO hM (rm_tak hM s hs)
set_option maxRecDepth 100000 in
set_option maxHeartbeats 4000000 in
theorem c_X12_swap_x5 {g : Gt} {α : AL} {ν : Nat → Nat → Bool} {X : XM} {h : AH} (hT : TR g α ν X h) {O : XM} (hO : WO O) (hM : RM O X) {s : Nat} (hs : (s : Int) < nS O) {c : Nat} (hc : (c : Int) < nC O) {t : Nat} (ht : (t : Int) < nC O) (hd : O 0 0 5 ≤ 5) (htk : tak O s c = true) (hct : ¬ c = t) (htt : tak O s t = false) (hcon : ¬ (mayT (eO O s (c : Int)) s t = true ∧ (eO O s (c : Int)) 9 s t < 3 ∧ 0 < free (eO O s (c : Int)) t ((eO O s (c : Int)) 4 s 0))) : Mu g α ν M_X12_swap 27 [.ref (α 40 0), .int (J (s : Int)), .int (J (c : Int)), .int (J (t : Int))] h (some (.int (J 0))) (fun X' => RM O X' ∧ CZ X X' 5) := by
  refine mu_of rfl rfl (ls := [some (.ref (α 40 0)), some (.int (J (s : Int))), some (.int (J (c : Int))), some (.int (J (t : Int))), none, none]) rfl (Nat.le_of_ble_eq_true rfl) ?_
  show Ev g M_X12_swap 27 0 [some (.ref (α 40 0)), some (.int (J (s : Int))), some (.int (J (c : Int))), some (.int (J (t : Int))), none, none] [] h 0 0 (UQ g α ν (some (.int (J 0))) (fun X' => RM O X' ∧ CZ X X' 5))
  have q0 := rm_nC hM
  have q1 := wo_nC hO
  have q2 := rm_nS hM
  have q3 := wo_nS hO
  have qd := rm_day hM
  refine ev_ald0 1 dX12_swap_0 rfl ?_
  refine ev_ald0 2 dX12_swap_1 rfl ?_
  refine ev_ild1 3 dX12_swap_2 rfl ?_
  refine ev_ild2 4 dX12_swap_3 rfl ?_
  refine ev_ild3 5 dX12_swap_4 rfl ?_
  refine tc_V3 8 14 dX12_swap_5 lkv_X12_224 (tr40 hT) rfl rfl (by first | decide | omega) (Nat.le_of_ble_eq_true rfl) (c_X12_swapFault_ok hT hO hM hs hc ht hd htk hct htt) ?_
  refine tm_V1 11 14 dX12_swap_8 lkv_X12_144 (tr40 hT) rfl rfl (by first | decide | omega) (Nat.le_of_ble_eq_true rfl) (goes_0 hT) (fun h X1 hT hP8 => ?_)
  have hM1 := hM
  have hM : RM O X1 := by rw [hP8]; exact rm_th hM1 _
  have q0 := rm_nC hM
  have q2 := rm_nS hM
  have hC0 : CZ X X1 0 := by rw [hP8]; exact CZ.go X 0
  obtain ⟨XG, hXG⟩ : ∃ Z, Z = X1 := ⟨_, rfl⟩
  rw [← hXG] at hT hM hC0
  have q0 := rm_nC hM
  have q2 := rm_nS hM
  refine tj_if_ne 16 14 dX12_swap_11 (by decide) rfl (by first | exact TR.rng hT _ _ _ | exact R31_of _ | exact bi_R _ | (constructor <;> omega)) (fun c11 => ?_) (fun c11 => ?_)
  · skip
    refine ev_ald0 17 dX12_swap_16 rfl ?_
    refine ev_getfield 20 14 12 fl_X12_31_14 (tr40 hT) rfl dX12_swap_17 rfl ?_
    refine ev_ild1 21 dX12_swap_20 rfl ?_
    refine tv_iald 22 (tr52 hT) (s) (by omega) (by omega) (by omega) dX12_swap_21 rfl ?_
    refine ev_ist4 24 dX12_swap_22 rfl (by decide) rfl ?_
    refine ev_ald0 25 dX12_swap_24 rfl ?_
    refine ev_ild1 26 dX12_swap_25 rfl ?_
    refine ev_ild2 27 dX12_swap_26 rfl ?_
    refine tmv_V2 30 14 dX12_swap_27 lkv_X12_221 (tr40 hT) rfl rfl (by first | decide | omega) (Nat.le_of_ble_eq_true rfl) (c_X12_ends hT hO hM hs hc htk (by omega)) (fun h X1 hT hP27 => ?_)
    obtain ⟨OE, hOEq⟩ : ∃ Z, Z = (eO O s (c : Int)) := ⟨_, rfl⟩
    rw [← hOEq] at hcon
    have hME : RM OE X1 := by rw [hOEq]; exact hP27.1
    obtain ⟨XE, hXE⟩ : ∃ Z, Z = X1 := ⟨_, rfl⟩
    rw [← hXE] at hT hME
    have hFE : FM XG XE := by rw [hXE]; exact hP27.2
    have hOE : WO OE := by rw [hOEq]; exact wo_eN 20 hO hs (Or.inr ⟨c, rfl, hc, htk⟩)
    have e1E : OE 1 = O 1 := by rw [hOEq, eO]; exact eN_k (by decide) (by decide) (by decide) (by decide) _ _ _ _
    have hsE : (s : Int) < nS OE := by unfold nS; rw [e1E]; exact hs
    have htE : (t : Int) < nC OE := by unfold nC; rw [e1E]; exact ht
    have q4E := rm_maj hME s hsE
    have fr0 := free_0 hOE htE (OE 4 s 0)
    have q1E := wo_nC hOE
    have ne52 : bitsE (XG 52 0 s) (O 5 s) := rm_tak hM s hs
    have ne1 := ne52.1
    have ne2 := ne52.2.1
    have mjE := wo_maj hOE s hsE
    have plE := place_R hOE htE s
    refine ev_ald0 31 dX12_swap_30 rfl ?_
    refine ev_ild1 32 dX12_swap_31 rfl ?_
    refine ev_ild3 33 dX12_swap_32 rfl ?_
    refine tc_V2 36 14 dX12_swap_33 lkv_X12_176 (tr40 hT) rfl rfl (by first | decide | omega) (Nat.le_of_ble_eq_true rfl) (c_X12_mayTake hT hOE hME hsE htE) ?_
    refine tb_if_eq 62 39 dX12_swap_36 (by decide) rfl (fun c36 => ?_) (fun c36 => ?_)
    · skip
      refine tj_iconst 63 dX12_swap_62 rfl ?_
      refine ev_goto 67 dX12_swap_63 (by decide) ?_
      refine ev_ist5 69 dX12_swap_67 rfl (by decide) rfl ?_
      refine ev_ald0 70 dX12_swap_69 rfl ?_
      refine ev_ild5 72 dX12_swap_70 rfl ?_
      refine tj_if_eq 79 75 dX12_swap_72 (by decide) rfl (by first | exact TR.rng hT _ _ _ | exact R31_of _ | exact bi_R _ | (constructor <;> omega)) (fun c72 => ?_) (fun c72 => ?_)
      · exact False.elim (by omega)
      · skip
        refine tj_iconst 76 dX12_swap_75 rfl ?_
        refine ev_goto 94 dX12_swap_76 (by decide) ?_
        refine tm_V1 97 14 dX12_swap_94 lkv_X12_144 (tr40 hT) rfl rfl (by first | decide | omega) (Nat.le_of_ble_eq_true rfl) (goes_n hT (by omega)) (fun h X1 hT hP94 => ?_)
        obtain ⟨XH, hXH⟩ : ∃ Z, Z = X1 := ⟨_, rfl⟩
        rw [← hXH] at hT hP94
        have hMH : RM OE XH := by rw [hP94]; exact rm_th hME _
        have hC1 : CZ X XH 5 := by rw [hP94]; exact CZ.at (hC0.1.tr (fun kk q => hFE kk (by omega))) 5
        refine tj_if_ne 110 100 dX12_swap_97 (by decide) rfl (by first | exact TR.rng hT _ _ _ | exact R31_of _ | exact bi_R _ | (constructor <;> omega)) (fun c97 => ?_) (fun c97 => ?_)
        · exact False.elim (by omega)
        · skip
          refine ev_ald0 101 dX12_swap_100 rfl ?_
          refine ev_getfield 104 14 12 fl_X12_31_14 (tr40 hT) rfl dX12_swap_101 rfl ?_
          refine ev_ild1 105 dX12_swap_104 rfl ?_
          refine ev_ild4 107 dX12_swap_105 rfl ?_
          refine tv_iast 108 hT (tv52 hT) (fun _ => rfl) (s) (by omega) (by omega) (by omega) (by first | exact TR.rng hT _ _ _ | exact R31_of _ | exact bi_R _ | (constructor <;> omega)) dX12_swap_107 rfl (fun h hT => ?_)
          obtain ⟨XR, hXR⟩ : ∃ Z, Z = xs XH 52 0 s (XG 52 0 s) := ⟨_, rfl⟩
          rw [← hXR] at hT
          have hMR : RM O XR := by rw [hXR]; exact rm_rt (s := s) hMH (fun k q => by rw [hOEq, eO, eN_d q 20 hd]) (fun s2 q => by funext j; rw [hOEq, eO, eN_5 (Or.inl q) 20 hO hs (Or.inr ⟨c, rfl, hc, htk⟩)]) hsE (fun k _ _ q => xs_nk q) (fun j hj => by rw [xs_at, if_neg hj]) (by rw [xs_at, if_pos rfl]; exact ne52)
          refine tj_iconst 109 dX12_swap_108 rfl ?_
          exact ev_ireturn (uq_i (by first | rfl | omega | exact bi_dt (by omega) | exact bi_df (by omega) | (skip)) hT (by exact ⟨hMR, by rw [hXR]; exact hC1.st (by decide)⟩)) rfl dX12_swap_109
    · skip
      refine ev_ald0 40 dX12_swap_39 rfl ?_
      refine ev_ild1 41 dX12_swap_40 rfl ?_
      refine ev_ild3 42 dX12_swap_41 rfl ?_
      refine tc_V2 45 14 dX12_swap_42 lkv_X12_208 (tr40 hT) rfl rfl (by first | decide | omega) (Nat.le_of_ble_eq_true rfl) (c_X12_isTired hT hOE hME hsE (by omega)) ?_
      refine tb_if_ne 62 48 dX12_swap_45 (by decide) rfl (fun c45 => ?_) (fun c45 => ?_)
      · skip
        refine tj_iconst 63 dX12_swap_62 rfl ?_
        refine ev_goto 67 dX12_swap_63 (by decide) ?_
        refine ev_ist5 69 dX12_swap_67 rfl (by decide) rfl ?_
        refine ev_ald0 70 dX12_swap_69 rfl ?_
        refine ev_ild5 72 dX12_swap_70 rfl ?_
        refine tj_if_eq 79 75 dX12_swap_72 (by decide) rfl (by first | exact TR.rng hT _ _ _ | exact R31_of _ | exact bi_R _ | (constructor <;> omega)) (fun c72 => ?_) (fun c72 => ?_)
        · exact False.elim (by omega)
        · skip
          refine tj_iconst 76 dX12_swap_75 rfl ?_
          refine ev_goto 94 dX12_swap_76 (by decide) ?_
          refine tm_V1 97 14 dX12_swap_94 lkv_X12_144 (tr40 hT) rfl rfl (by first | decide | omega) (Nat.le_of_ble_eq_true rfl) (goes_n hT (by omega)) (fun h X1 hT hP94 => ?_)
          obtain ⟨XH, hXH⟩ : ∃ Z, Z = X1 := ⟨_, rfl⟩
          rw [← hXH] at hT hP94
          have hMH : RM OE XH := by rw [hP94]; exact rm_th hME _
          have hC1 : CZ X XH 5 := by rw [hP94]; exact CZ.at (hC0.1.tr (fun kk q => hFE kk (by omega))) 5
          refine tj_if_ne 110 100 dX12_swap_97 (by decide) rfl (by first | exact TR.rng hT _ _ _ | exact R31_of _ | exact bi_R _ | (constructor <;> omega)) (fun c97 => ?_) (fun c97 => ?_)
          · exact False.elim (by omega)
          · skip
            refine ev_ald0 101 dX12_swap_100 rfl ?_
            refine ev_getfield 104 14 12 fl_X12_31_14 (tr40 hT) rfl dX12_swap_101 rfl ?_
            refine ev_ild1 105 dX12_swap_104 rfl ?_
            refine ev_ild4 107 dX12_swap_105 rfl ?_
            refine tv_iast 108 hT (tv52 hT) (fun _ => rfl) (s) (by omega) (by omega) (by omega) (by first | exact TR.rng hT _ _ _ | exact R31_of _ | exact bi_R _ | (constructor <;> omega)) dX12_swap_107 rfl (fun h hT => ?_)
            obtain ⟨XR, hXR⟩ : ∃ Z, Z = xs XH 52 0 s (XG 52 0 s) := ⟨_, rfl⟩
            rw [← hXR] at hT
            have hMR : RM O XR := by rw [hXR]; exact rm_rt (s := s) hMH (fun k q => by rw [hOEq, eO, eN_d q 20 hd]) (fun s2 q => by funext j; rw [hOEq, eO, eN_5 (Or.inl q) 20 hO hs (Or.inr ⟨c, rfl, hc, htk⟩)]) hsE (fun k _ _ q => xs_nk q) (fun j hj => by rw [xs_at, if_neg hj]) (by rw [xs_at, if_pos rfl]; exact ne52)
            refine tj_iconst 109 dX12_swap_108 rfl ?_
            exact ev_ireturn (uq_i (by first | rfl | omega | exact bi_dt (by omega) | exact bi_df (by omega) | (skip)) hT (by exact ⟨hMR, by rw [hXR]; exact hC1.st (by decide)⟩)) rfl dX12_swap_109
      · skip
        refine ev_ald0 49 dX12_swap_48 rfl ?_
        refine ev_ild3 50 dX12_swap_49 rfl ?_
        refine ev_ald0 51 dX12_swap_50 rfl ?_
        refine ev_getfield 54 14 11 fl_X12_28_14 (tr40 hT) rfl dX12_swap_51 rfl ?_
        refine ev_ild1 55 dX12_swap_54 rfl ?_
        refine tv_iald 56 (tr51 hT) (s) (by omega) (by omega) (by omega) dX12_swap_55 rfl ?_
        refine tc_V2 59 14 dX12_swap_56 lkv_X12_170 (tr40 hT) rfl rfl (by first | decide | omega) (Nat.le_of_ble_eq_true rfl) (frM q4E (c_X12_freeFor hT hOE hME htE (by first | exact TR.rng hT _ _ _ | exact R31_of _ | exact bi_R _ | (constructor <;> omega)))) ?_
        refine tj_if_ne 66 62 dX12_swap_59 (by decide) rfl (by first | exact TR.rng hT _ _ _ | exact R31_of _ | exact bi_R _ | (constructor <;> omega)) (fun c59 => ?_) (fun c59 => ?_)
        · exact False.elim (hcon ⟨c36, by have := of_decide_eq_false c45; omega, by omega⟩)
        · skip
          refine tj_iconst 63 dX12_swap_62 rfl ?_
          refine ev_goto 67 dX12_swap_63 (by decide) ?_
          refine ev_ist5 69 dX12_swap_67 rfl (by decide) rfl ?_
          refine ev_ald0 70 dX12_swap_69 rfl ?_
          refine ev_ild5 72 dX12_swap_70 rfl ?_
          refine tj_if_eq 79 75 dX12_swap_72 (by decide) rfl (by first | exact TR.rng hT _ _ _ | exact R31_of _ | exact bi_R _ | (constructor <;> omega)) (fun c72 => ?_) (fun c72 => ?_)
          · exact False.elim (by omega)
          · skip
            refine tj_iconst 76 dX12_swap_75 rfl ?_
            refine ev_goto 94 dX12_swap_76 (by decide) ?_
            refine tm_V1 97 14 dX12_swap_94 lkv_X12_144 (tr40 hT) rfl rfl (by first | decide | omega) (Nat.le_of_ble_eq_true rfl) (goes_n hT (by omega)) (fun h X1 hT hP94 => ?_)
            obtain ⟨XH, hXH⟩ : ∃ Z, Z = X1 := ⟨_, rfl⟩
            rw [← hXH] at hT hP94
            have hMH : RM OE XH := by rw [hP94]; exact rm_th hME _
            have hC1 : CZ X XH 5 := by rw [hP94]; exact CZ.at (hC0.1.tr (fun kk q => hFE kk (by omega))) 5
            refine tj_if_ne 110 100 dX12_swap_97 (by decide) rfl (by first | exact TR.rng hT _ _ _ | exact R31_of _ | exact bi_R _ | (constructor <;> omega)) (fun c97 => ?_) (fun c97 => ?_)
            · exact False.elim (by omega)
            · skip
              refine ev_ald0 101 dX12_swap_100 rfl ?_
              refine ev_getfield 104 14 12 fl_X12_31_14 (tr40 hT) rfl dX12_swap_101 rfl ?_
              refine ev_ild1 105 dX12_swap_104 rfl ?_
              refine ev_ild4 107 dX12_swap_105 rfl ?_
              refine tv_iast 108 hT (tv52 hT) (fun _ => rfl) (s) (by omega) (by omega) (by omega) (by first | exact TR.rng hT _ _ _ | exact R31_of _ | exact bi_R _ | (constructor <;> omega)) dX12_swap_107 rfl (fun h hT => ?_)
              obtain ⟨XR, hXR⟩ : ∃ Z, Z = xs XH 52 0 s (XG 52 0 s) := ⟨_, rfl⟩
              rw [← hXR] at hT
              have hMR : RM O XR := by rw [hXR]; exact rm_rt (s := s) hMH (fun k q => by rw [hOEq, eO, eN_d q 20 hd]) (fun s2 q => by funext j; rw [hOEq, eO, eN_5 (Or.inl q) 20 hO hs (Or.inr ⟨c, rfl, hc, htk⟩)]) hsE (fun k _ _ q => xs_nk q) (fun j hj => by rw [xs_at, if_neg hj]) (by rw [xs_at, if_pos rfl]; exact ne52)
              refine tj_iconst 109 dX12_swap_108 rfl ?_
              exact ev_ireturn (uq_i (by first | rfl | omega | exact bi_dt (by omega) | exact bi_df (by omega) | (skip)) hT (by exact ⟨hMR, by rw [hXR]; exact hC1.st (by decide)⟩)) rfl dX12_swap_109
  · exact False.elim (by omega)
set_option maxRecDepth 100000 in
set_option maxHeartbeats 4000000 in
theorem c_X12_swap_x6 {g : Gt} {α : AL} {ν : Nat → Nat → Bool} {X : XM} {h : AH} (hT : TR g α ν X h) {O : XM} (hO : WO O) (hM : RM O X) {s : Nat} (hs : (s : Int) < nS O) {c : Nat} (hc : (c : Int) < nC O) {t : Nat} (ht : (t : Int) < nC O) (hd : O 0 0 5 ≤ 5) (htk : tak O s c = true) (hct : ¬ c = t) (htt : tak O s t = false) (hcon : (mayT (eO O s (c : Int)) s t = true ∧ (eO O s (c : Int)) 9 s t < 3 ∧ 0 < free (eO O s (c : Int)) t ((eO O s (c : Int)) 4 s 0)) ∧ fitsL (eO O s (c : Int)) s t = false) : Mu g α ν M_X12_swap 27 [.ref (α 40 0), .int (J (s : Int)), .int (J (c : Int)), .int (J (t : Int))] h (some (.int (J 0))) (fun X' => RM O X' ∧ CZ X X' 6) := by
  refine mu_of rfl rfl (ls := [some (.ref (α 40 0)), some (.int (J (s : Int))), some (.int (J (c : Int))), some (.int (J (t : Int))), none, none]) rfl (Nat.le_of_ble_eq_true rfl) ?_
  show Ev g M_X12_swap 27 0 [some (.ref (α 40 0)), some (.int (J (s : Int))), some (.int (J (c : Int))), some (.int (J (t : Int))), none, none] [] h 0 0 (UQ g α ν (some (.int (J 0))) (fun X' => RM O X' ∧ CZ X X' 6))
  have q0 := rm_nC hM
  have q1 := wo_nC hO
  have q2 := rm_nS hM
  have q3 := wo_nS hO
  have qd := rm_day hM
  refine ev_ald0 1 dX12_swap_0 rfl ?_
  refine ev_ald0 2 dX12_swap_1 rfl ?_
  refine ev_ild1 3 dX12_swap_2 rfl ?_
  refine ev_ild2 4 dX12_swap_3 rfl ?_
  refine ev_ild3 5 dX12_swap_4 rfl ?_
  refine tc_V3 8 14 dX12_swap_5 lkv_X12_224 (tr40 hT) rfl rfl (by first | decide | omega) (Nat.le_of_ble_eq_true rfl) (c_X12_swapFault_ok hT hO hM hs hc ht hd htk hct htt) ?_
  refine tm_V1 11 14 dX12_swap_8 lkv_X12_144 (tr40 hT) rfl rfl (by first | decide | omega) (Nat.le_of_ble_eq_true rfl) (goes_0 hT) (fun h X1 hT hP8 => ?_)
  have hM1 := hM
  have hM : RM O X1 := by rw [hP8]; exact rm_th hM1 _
  have q0 := rm_nC hM
  have q2 := rm_nS hM
  have hC0 : CZ X X1 0 := by rw [hP8]; exact CZ.go X 0
  obtain ⟨XG, hXG⟩ : ∃ Z, Z = X1 := ⟨_, rfl⟩
  rw [← hXG] at hT hM hC0
  have q0 := rm_nC hM
  have q2 := rm_nS hM
  refine tj_if_ne 16 14 dX12_swap_11 (by decide) rfl (by first | exact TR.rng hT _ _ _ | exact R31_of _ | exact bi_R _ | (constructor <;> omega)) (fun c11 => ?_) (fun c11 => ?_)
  · skip
    refine ev_ald0 17 dX12_swap_16 rfl ?_
    refine ev_getfield 20 14 12 fl_X12_31_14 (tr40 hT) rfl dX12_swap_17 rfl ?_
    refine ev_ild1 21 dX12_swap_20 rfl ?_
    refine tv_iald 22 (tr52 hT) (s) (by omega) (by omega) (by omega) dX12_swap_21 rfl ?_
    refine ev_ist4 24 dX12_swap_22 rfl (by decide) rfl ?_
    refine ev_ald0 25 dX12_swap_24 rfl ?_
    refine ev_ild1 26 dX12_swap_25 rfl ?_
    refine ev_ild2 27 dX12_swap_26 rfl ?_
    refine tmv_V2 30 14 dX12_swap_27 lkv_X12_221 (tr40 hT) rfl rfl (by first | decide | omega) (Nat.le_of_ble_eq_true rfl) (c_X12_ends hT hO hM hs hc htk (by omega)) (fun h X1 hT hP27 => ?_)
    obtain ⟨OE, hOEq⟩ : ∃ Z, Z = (eO O s (c : Int)) := ⟨_, rfl⟩
    rw [← hOEq] at hcon
    have hME : RM OE X1 := by rw [hOEq]; exact hP27.1
    obtain ⟨XE, hXE⟩ : ∃ Z, Z = X1 := ⟨_, rfl⟩
    rw [← hXE] at hT hME
    have hFE : FM XG XE := by rw [hXE]; exact hP27.2
    have hOE : WO OE := by rw [hOEq]; exact wo_eN 20 hO hs (Or.inr ⟨c, rfl, hc, htk⟩)
    have e1E : OE 1 = O 1 := by rw [hOEq, eO]; exact eN_k (by decide) (by decide) (by decide) (by decide) _ _ _ _
    have hsE : (s : Int) < nS OE := by unfold nS; rw [e1E]; exact hs
    have htE : (t : Int) < nC OE := by unfold nC; rw [e1E]; exact ht
    have q4E := rm_maj hME s hsE
    have fr0 := free_0 hOE htE (OE 4 s 0)
    have q1E := wo_nC hOE
    have ne52 : bitsE (XG 52 0 s) (O 5 s) := rm_tak hM s hs
    have ne1 := ne52.1
    have ne2 := ne52.2.1
    have mjE := wo_maj hOE s hsE
    have plE := place_R hOE htE s
    refine ev_ald0 31 dX12_swap_30 rfl ?_
    refine ev_ild1 32 dX12_swap_31 rfl ?_
    refine ev_ild3 33 dX12_swap_32 rfl ?_
    refine tc_V2 36 14 dX12_swap_33 lkv_X12_176 (tr40 hT) rfl rfl (by first | decide | omega) (Nat.le_of_ble_eq_true rfl) (c_X12_mayTake hT hOE hME hsE htE) ?_
    refine tb_if_eq 62 39 dX12_swap_36 (by decide) rfl (fun c36 => ?_) (fun c36 => ?_)
    · exact False.elim (Bool.false_ne_true (c36.symm.trans hcon.1.1))
    · skip
      refine ev_ald0 40 dX12_swap_39 rfl ?_
      refine ev_ild1 41 dX12_swap_40 rfl ?_
      refine ev_ild3 42 dX12_swap_41 rfl ?_
      refine tc_V2 45 14 dX12_swap_42 lkv_X12_208 (tr40 hT) rfl rfl (by first | decide | omega) (Nat.le_of_ble_eq_true rfl) (c_X12_isTired hT hOE hME hsE (by omega)) ?_
      refine tb_if_ne 62 48 dX12_swap_45 (by decide) rfl (fun c45 => ?_) (fun c45 => ?_)
      · exact False.elim (by have := of_decide_eq_true c45; have := hcon.1.2.1; omega)
      · skip
        refine ev_ald0 49 dX12_swap_48 rfl ?_
        refine ev_ild3 50 dX12_swap_49 rfl ?_
        refine ev_ald0 51 dX12_swap_50 rfl ?_
        refine ev_getfield 54 14 11 fl_X12_28_14 (tr40 hT) rfl dX12_swap_51 rfl ?_
        refine ev_ild1 55 dX12_swap_54 rfl ?_
        refine tv_iald 56 (tr51 hT) (s) (by omega) (by omega) (by omega) dX12_swap_55 rfl ?_
        refine tc_V2 59 14 dX12_swap_56 lkv_X12_170 (tr40 hT) rfl rfl (by first | decide | omega) (Nat.le_of_ble_eq_true rfl) (frM q4E (c_X12_freeFor hT hOE hME htE (by first | exact TR.rng hT _ _ _ | exact R31_of _ | exact bi_R _ | (constructor <;> omega)))) ?_
        refine tj_if_ne 66 62 dX12_swap_59 (by decide) rfl (by first | exact TR.rng hT _ _ _ | exact R31_of _ | exact bi_R _ | (constructor <;> omega)) (fun c59 => ?_) (fun c59 => ?_)
        · skip
          refine tj_iconst 67 dX12_swap_66 rfl ?_
          refine ev_ist5 69 dX12_swap_67 rfl (by decide) rfl ?_
          refine ev_ald0 70 dX12_swap_69 rfl ?_
          refine ev_ild5 72 dX12_swap_70 rfl ?_
          refine tj_if_eq 79 75 dX12_swap_72 (by decide) rfl (by first | exact TR.rng hT _ _ _ | exact R31_of _ | exact bi_R _ | (constructor <;> omega)) (fun c72 => ?_) (fun c72 => ?_)
          · skip
            refine ev_ald0 80 dX12_swap_79 rfl ?_
            refine ev_ild1 81 dX12_swap_80 rfl ?_
            refine ev_ild3 82 dX12_swap_81 rfl ?_
            refine tc_V2 85 14 dX12_swap_82 lkv_X12_173 (tr40 hT) rfl rfl (by first | decide | omega) (Nat.le_of_ble_eq_true rfl) (c_X12_fits hT hOE hME hsE htE) ?_
            refine tb_if_ne 93 88 dX12_swap_85 (by decide) rfl (fun c85 => ?_) (fun c85 => ?_)
            · exact False.elim (Bool.false_ne_true (hcon.2.symm.trans c85))
            · skip
              refine tj_bipush 90 dX12_swap_88 (by decide) rfl ?_
              refine ev_goto 94 dX12_swap_90 (by decide) ?_
              refine tm_V1 97 14 dX12_swap_94 lkv_X12_144 (tr40 hT) rfl rfl (by first | decide | omega) (Nat.le_of_ble_eq_true rfl) (goes_n hT (by omega)) (fun h X1 hT hP94 => ?_)
              obtain ⟨XH, hXH⟩ : ∃ Z, Z = X1 := ⟨_, rfl⟩
              rw [← hXH] at hT hP94
              have hMH : RM OE XH := by rw [hP94]; exact rm_th hME _
              have hC1 : CZ X XH 6 := by rw [hP94]; exact CZ.at (hC0.1.tr (fun kk q => hFE kk (by omega))) 6
              refine tj_if_ne 110 100 dX12_swap_97 (by decide) rfl (by first | exact TR.rng hT _ _ _ | exact R31_of _ | exact bi_R _ | (constructor <;> omega)) (fun c97 => ?_) (fun c97 => ?_)
              · exact False.elim (by omega)
              · skip
                refine ev_ald0 101 dX12_swap_100 rfl ?_
                refine ev_getfield 104 14 12 fl_X12_31_14 (tr40 hT) rfl dX12_swap_101 rfl ?_
                refine ev_ild1 105 dX12_swap_104 rfl ?_
                refine ev_ild4 107 dX12_swap_105 rfl ?_
                refine tv_iast 108 hT (tv52 hT) (fun _ => rfl) (s) (by omega) (by omega) (by omega) (by first | exact TR.rng hT _ _ _ | exact R31_of _ | exact bi_R _ | (constructor <;> omega)) dX12_swap_107 rfl (fun h hT => ?_)
                obtain ⟨XR, hXR⟩ : ∃ Z, Z = xs XH 52 0 s (XG 52 0 s) := ⟨_, rfl⟩
                rw [← hXR] at hT
                have hMR : RM O XR := by rw [hXR]; exact rm_rt (s := s) hMH (fun k q => by rw [hOEq, eO, eN_d q 20 hd]) (fun s2 q => by funext j; rw [hOEq, eO, eN_5 (Or.inl q) 20 hO hs (Or.inr ⟨c, rfl, hc, htk⟩)]) hsE (fun k _ _ q => xs_nk q) (fun j hj => by rw [xs_at, if_neg hj]) (by rw [xs_at, if_pos rfl]; exact ne52)
                refine tj_iconst 109 dX12_swap_108 rfl ?_
                exact ev_ireturn (uq_i (by first | rfl | omega | exact bi_dt (by omega) | exact bi_df (by omega) | (skip)) hT (by exact ⟨hMR, by rw [hXR]; exact hC1.st (by decide)⟩)) rfl dX12_swap_109
          · exact False.elim (by omega)
        · exact False.elim (by have := hcon.1.2.2; omega)
  · exact False.elim (by omega)
set_option maxRecDepth 100000 in
set_option maxHeartbeats 4000000 in
theorem c_X12_swap_ok {g : Gt} {α : AL} {ν : Nat → Nat → Bool} {X : XM} {h : AH} (hT : TR g α ν X h) {O : XM} (hO : WO O) (hM : RM O X) {s : Nat} (hs : (s : Int) < nS O) {c : Nat} (hc : (c : Int) < nC O) {t : Nat} (ht : (t : Int) < nC O) (hd : O 0 0 5 ≤ 5) (htk : tak O s c = true) (hct : ¬ c = t) (htt : tak O s t = false) (hcon : (mayT (eO O s (c : Int)) s t = true ∧ (eO O s (c : Int)) 9 s t < 3 ∧ 0 < free (eO O s (c : Int)) t ((eO O s (c : Int)) 4 s 0)) ∧ fitsL (eO O s (c : Int)) s t = true) : Mu g α ν M_X12_swap 27 [.ref (α 40 0), .int (J (s : Int)), .int (J (c : Int)), .int (J (t : Int))] h (some (.int (J (load (gv (xs (sw (eO O s (c : Int)) t s) 5 s t 1)) s)))) (fun X' => RM (gv (xs (sw (eO O s (c : Int)) t s) 5 s t 1)) X' ∧ CZ X X' 0) := by
  refine mu_of rfl rfl (ls := [some (.ref (α 40 0)), some (.int (J (s : Int))), some (.int (J (c : Int))), some (.int (J (t : Int))), none, none]) rfl (Nat.le_of_ble_eq_true rfl) ?_
  show Ev g M_X12_swap 27 0 [some (.ref (α 40 0)), some (.int (J (s : Int))), some (.int (J (c : Int))), some (.int (J (t : Int))), none, none] [] h 0 0 (UQ g α ν (some (.int (J (load (gv (xs (sw (eO O s (c : Int)) t s) 5 s t 1)) s)))) (fun X' => RM (gv (xs (sw (eO O s (c : Int)) t s) 5 s t 1)) X' ∧ CZ X X' 0))
  have q0 := rm_nC hM
  have q1 := wo_nC hO
  have q2 := rm_nS hM
  have q3 := wo_nS hO
  have qd := rm_day hM
  refine ev_ald0 1 dX12_swap_0 rfl ?_
  refine ev_ald0 2 dX12_swap_1 rfl ?_
  refine ev_ild1 3 dX12_swap_2 rfl ?_
  refine ev_ild2 4 dX12_swap_3 rfl ?_
  refine ev_ild3 5 dX12_swap_4 rfl ?_
  refine tc_V3 8 14 dX12_swap_5 lkv_X12_224 (tr40 hT) rfl rfl (by first | decide | omega) (Nat.le_of_ble_eq_true rfl) (c_X12_swapFault_ok hT hO hM hs hc ht hd htk hct htt) ?_
  refine tm_V1 11 14 dX12_swap_8 lkv_X12_144 (tr40 hT) rfl rfl (by first | decide | omega) (Nat.le_of_ble_eq_true rfl) (goes_0 hT) (fun h X1 hT hP8 => ?_)
  have hM1 := hM
  have hM : RM O X1 := by rw [hP8]; exact rm_th hM1 _
  have q0 := rm_nC hM
  have q2 := rm_nS hM
  have hC0 : CZ X X1 0 := by rw [hP8]; exact CZ.go X 0
  obtain ⟨XG, hXG⟩ : ∃ Z, Z = X1 := ⟨_, rfl⟩
  rw [← hXG] at hT hM hC0
  have q0 := rm_nC hM
  have q2 := rm_nS hM
  refine tj_if_ne 16 14 dX12_swap_11 (by decide) rfl (by first | exact TR.rng hT _ _ _ | exact R31_of _ | exact bi_R _ | (constructor <;> omega)) (fun c11 => ?_) (fun c11 => ?_)
  · skip
    refine ev_ald0 17 dX12_swap_16 rfl ?_
    refine ev_getfield 20 14 12 fl_X12_31_14 (tr40 hT) rfl dX12_swap_17 rfl ?_
    refine ev_ild1 21 dX12_swap_20 rfl ?_
    refine tv_iald 22 (tr52 hT) (s) (by omega) (by omega) (by omega) dX12_swap_21 rfl ?_
    refine ev_ist4 24 dX12_swap_22 rfl (by decide) rfl ?_
    refine ev_ald0 25 dX12_swap_24 rfl ?_
    refine ev_ild1 26 dX12_swap_25 rfl ?_
    refine ev_ild2 27 dX12_swap_26 rfl ?_
    refine tmv_V2 30 14 dX12_swap_27 lkv_X12_221 (tr40 hT) rfl rfl (by first | decide | omega) (Nat.le_of_ble_eq_true rfl) (c_X12_ends hT hO hM hs hc htk (by omega)) (fun h X1 hT hP27 => ?_)
    obtain ⟨OE, hOEq⟩ : ∃ Z, Z = (eO O s (c : Int)) := ⟨_, rfl⟩
    rw [← hOEq] at hcon
    have hME : RM OE X1 := by rw [hOEq]; exact hP27.1
    obtain ⟨XE, hXE⟩ : ∃ Z, Z = X1 := ⟨_, rfl⟩
    rw [← hXE] at hT hME
    have hFE : FM XG XE := by rw [hXE]; exact hP27.2
    have hOE : WO OE := by rw [hOEq]; exact wo_eN 20 hO hs (Or.inr ⟨c, rfl, hc, htk⟩)
    have e1E : OE 1 = O 1 := by rw [hOEq, eO]; exact eN_k (by decide) (by decide) (by decide) (by decide) _ _ _ _
    have hsE : (s : Int) < nS OE := by unfold nS; rw [e1E]; exact hs
    have htE : (t : Int) < nC OE := by unfold nC; rw [e1E]; exact ht
    have q4E := rm_maj hME s hsE
    have fr0 := free_0 hOE htE (OE 4 s 0)
    have q1E := wo_nC hOE
    have ne52 : bitsE (XG 52 0 s) (O 5 s) := rm_tak hM s hs
    have ne1 := ne52.1
    have ne2 := ne52.2.1
    have mjE := wo_maj hOE s hsE
    have plE := place_R hOE htE s
    refine ev_ald0 31 dX12_swap_30 rfl ?_
    refine ev_ild1 32 dX12_swap_31 rfl ?_
    refine ev_ild3 33 dX12_swap_32 rfl ?_
    refine tc_V2 36 14 dX12_swap_33 lkv_X12_176 (tr40 hT) rfl rfl (by first | decide | omega) (Nat.le_of_ble_eq_true rfl) (c_X12_mayTake hT hOE hME hsE htE) ?_
    refine tb_if_eq 62 39 dX12_swap_36 (by decide) rfl (fun c36 => ?_) (fun c36 => ?_)
    · exact False.elim (Bool.false_ne_true (c36.symm.trans hcon.1.1))
    · skip
      refine ev_ald0 40 dX12_swap_39 rfl ?_
      refine ev_ild1 41 dX12_swap_40 rfl ?_
      refine ev_ild3 42 dX12_swap_41 rfl ?_
      refine tc_V2 45 14 dX12_swap_42 lkv_X12_208 (tr40 hT) rfl rfl (by first | decide | omega) (Nat.le_of_ble_eq_true rfl) (c_X12_isTired hT hOE hME hsE (by omega)) ?_
      refine tb_if_ne 62 48 dX12_swap_45 (by decide) rfl (fun c45 => ?_) (fun c45 => ?_)
      · exact False.elim (by have := of_decide_eq_true c45; have := hcon.1.2.1; omega)
      · skip
        refine ev_ald0 49 dX12_swap_48 rfl ?_
        refine ev_ild3 50 dX12_swap_49 rfl ?_
        refine ev_ald0 51 dX12_swap_50 rfl ?_
        refine ev_getfield 54 14 11 fl_X12_28_14 (tr40 hT) rfl dX12_swap_51 rfl ?_
        refine ev_ild1 55 dX12_swap_54 rfl ?_
        refine tv_iald 56 (tr51 hT) (s) (by omega) (by omega) (by omega) dX12_swap_55 rfl ?_
        refine tc_V2 59 14 dX12_swap_56 lkv_X12_170 (tr40 hT) rfl rfl (by first | decide | omega) (Nat.le_of_ble_eq_true rfl) (frM q4E (c_X12_freeFor hT hOE hME htE (by first | exact TR.rng hT _ _ _ | exact R31_of _ | exact bi_R _ | (constructor <;> omega)))) ?_
        refine tj_if_ne 66 62 dX12_swap_59 (by decide) rfl (by first | exact TR.rng hT _ _ _ | exact R31_of _ | exact bi_R _ | (constructor <;> omega)) (fun c59 => ?_) (fun c59 => ?_)
        · skip
          refine tj_iconst 67 dX12_swap_66 rfl ?_
          refine ev_ist5 69 dX12_swap_67 rfl (by decide) rfl ?_
          refine ev_ald0 70 dX12_swap_69 rfl ?_
          refine ev_ild5 72 dX12_swap_70 rfl ?_
          refine tj_if_eq 79 75 dX12_swap_72 (by decide) rfl (by first | exact TR.rng hT _ _ _ | exact R31_of _ | exact bi_R _ | (constructor <;> omega)) (fun c72 => ?_) (fun c72 => ?_)
          · skip
            refine ev_ald0 80 dX12_swap_79 rfl ?_
            refine ev_ild1 81 dX12_swap_80 rfl ?_
            refine ev_ild3 82 dX12_swap_81 rfl ?_
            refine tc_V2 85 14 dX12_swap_82 lkv_X12_173 (tr40 hT) rfl rfl (by first | decide | omega) (Nat.le_of_ble_eq_true rfl) (c_X12_fits hT hOE hME hsE htE) ?_
            refine tb_if_ne 93 88 dX12_swap_85 (by decide) rfl (fun c85 => ?_) (fun c85 => ?_)
            · skip
              refine tj_iconst 94 dX12_swap_93 rfl ?_
              refine tm_V1 97 14 dX12_swap_94 lkv_X12_144 (tr40 hT) rfl rfl (by first | decide | omega) (Nat.le_of_ble_eq_true rfl) (goes_0 hT) (fun h X1 hT hP94 => ?_)
              obtain ⟨XH, hXH⟩ : ∃ Z, Z = X1 := ⟨_, rfl⟩
              rw [← hXH] at hT hP94
              have hMH : RM OE XH := by rw [hP94]; exact rm_th hME _
              have hC1 : CZ X XH 0 := by rw [hP94]; exact CZ.at (hC0.1.tr (fun kk q => hFE kk (by omega))) 0
              refine tj_if_ne 110 100 dX12_swap_97 (by decide) rfl (by first | exact TR.rng hT _ _ _ | exact R31_of _ | exact bi_R _ | (constructor <;> omega)) (fun c97 => ?_) (fun c97 => ?_)
              · skip
                refine ev_ald0 111 dX12_swap_110 rfl ?_
                refine ev_ild3 112 dX12_swap_111 rfl ?_
                refine ev_ild1 113 dX12_swap_112 rfl ?_
                refine tc_V2 116 14 dX12_swap_113 lkv_X12_202 (tr40 hT) rfl rfl (by first | decide | omega) (Nat.le_of_ble_eq_true rfl) (c_X12_placeIn hT hOE hMH htE (by omega)) ?_
                refine tj_iconst 117 dX12_swap_116 rfl ?_
                refine tj_icmp_eq 131 120 dX12_swap_117 (by decide) rfl (by first | exact TR.rng hT _ _ _ | exact R31_of _ | exact bi_R _ | (constructor <;> omega)) (by first | exact TR.rng hT _ _ _ | exact R31_of _ | exact bi_R _ | (constructor <;> omega)) (fun c117 => ?_) (fun c117 => ?_)
                · skip
                  obtain ⟨XS, hXS⟩ : ∃ Z, Z = XH := ⟨_, rfl⟩
                  rw [← hXS] at hT
                  have hMS : RM (sw OE t s) XS := by unfold sw; rw [if_pos c117, hXS]; exact hMH
                  have hCS : CZ X XS 0 := by rw [hXS]; exact hC1
                  have e1S : sw OE t s 1 = sw OE t s 1 := rfl
                  have nSS : nS (sw OE t s) = nS O := by unfold nS; rw [sw_l _ (by decide), e1E]
                  have nCS : nC (sw OE t s) = nC O := by unfold nC; rw [sw_l _ (by decide), e1E]
                  have hOS : WO (sw OE t s) := wo_sw hOE htE
                  have t3 := rm_tak hMS s (by omega)
                  have t31 := t3.1
                  have hO3 : WO (xs (sw OE t s) 5 s t 1) := wo_t1 hOS (by omega) (by omega) (by rw [sw_k (by decide) (by decide)]; have := hcon.1.2.1; omega)
                  refine ev_ald0 132 dX12_swap_131 rfl ?_
                  refine ev_getfield 135 14 12 fl_X12_31_14 (tr40 hT) rfl dX12_swap_132 rfl ?_
                  refine ev_ild1 136 dX12_swap_135 rfl ?_
                  refine ev_dup2 137 dX12_swap_136 rfl rfl rfl ?_
                  refine tv_iald 138 (tr52 hT) (s) (by omega) (by omega) (by omega) dX12_swap_137 rfl ?_
                  refine tj_iconst 139 dX12_swap_138 rfl ?_
                  refine ev_ild3 140 dX12_swap_139 rfl ?_
                  refine tj_ishl 141 dX12_swap_140 1 t rfl rfl (by omega) rfl ?_
                  refine tj_ior 142 dX12_swap_141 (XS 52 0 s).toNat (1 <<< t) (by omega) rfl rfl ?_
                  have hbs := bitsE_set t3 (c := t) (by omega) (f2 := xs (sw OE t s) 5 s t 1 5 s) (by rw [xs_at, if_pos rfl]; decide) (fun j hj => by rw [xs_at, if_neg hj])
                  have hb1 := hbs.1
                  have hb2 := hbs.2.1
                  refine tv_iast 143 hT (tv52 hT) (fun _ => rfl) (s) (by omega) (by omega) (by omega) (by first | exact TR.rng hT _ _ _ | exact R31_of _ | exact bi_R _ | (constructor <;> omega)) dX12_swap_142 rfl (fun h hT => ?_)
                  obtain ⟨X3, hX3⟩ : ∃ Z, Z = xs XS 52 0 s (((XS 52 0 s).toNat ||| 1 <<< t : Nat) : Int) := ⟨_, rfl⟩
                  rw [← hX3] at hT
                  have hM3 : RM (xs (sw OE t s) 5 s t 1) X3 := by rw [hX3]; exact rm_t1 hMS (by omega) (by omega) (by omega) (fun k _ _ q => xs_nk q) (fun j => xs_at _ _ _ _ _ _)
                  have hC3 : CZ X X3 0 := by rw [hX3]; exact hCS.st (by decide)
                  refine ev_ald0 144 dX12_swap_143 rfl ?_
                  refine tmv_V0 147 14 dX12_swap_144 lkv_X12_193 (tr40 hT) rfl rfl (by first | decide | omega) (Nat.le_of_ble_eq_true rfl) (c_X12_givesOut hT hO3 hM3) (fun h X1 hT hP144 => ?_)
                  have hMG := hP144.1
                  have hC4 := hC3.fm hP144.2
                  have hsG : (s : Int) < nS (gv (xs (sw OE t s) 5 s t 1)) := by unfold nS; rw [gv_l (by decide), xs_nk (by decide), sw_l _ (by decide), e1E]; exact hs
                  refine ev_ald0 148 dX12_swap_147 rfl ?_
                  refine ev_ald0 149 dX12_swap_148 rfl ?_
                  refine ev_getfield 152 14 12 fl_X12_31_14 (tr40 hT) rfl dX12_swap_149 rfl ?_
                  refine ev_ild1 153 dX12_swap_152 rfl ?_
                  refine tv_iald 154 (tr52 hT) (s) (by omega) (by omega) (by omega) dX12_swap_153 rfl ?_
                  refine tc_V1 157 14 dX12_swap_154 lkv_X12_123 (tr40 hT) rfl rfl (by first | decide | omega) (Nat.le_of_ble_eq_true rfl) (cM_tak hT (wo_gv hO3) hMG hsG) ?_
                  exact ev_ireturn (uq_i (by first | rfl | omega | exact bi_dt (by omega) | exact bi_df (by omega) | (rw [hOEq])) hT (by rw [← hOEq]; exact ⟨hMG, hC4⟩)) rfl dX12_swap_157
                · skip
                  have q5 := wo_wN hOE t htE
                  have q6 := place_R hOE htE s
                  have q7 := plc_R OE t s (OE 1 (4 + t) 2).toNat
                  have q8 := rm_wN hMH t htE
                  obtain ⟨k, hk⟩ : ∃ k : Nat, place OE t s = (k : Int) := ⟨(place OE t s).toNat, by omega⟩
                  have hk2 : (k : Int) < OE 1 (4 + t) 2 := by have := q7.2; unfold place at hk; omega
                  refine ev_ald0 121 dX12_swap_120 rfl ?_
                  refine ev_ild3 122 dX12_swap_121 rfl ?_
                  refine ev_ald0 123 dX12_swap_122 rfl ?_
                  refine ev_ild3 124 dX12_swap_123 rfl ?_
                  refine ev_ild1 125 dX12_swap_124 rfl ?_
                  refine tc_V2 128 14 dX12_swap_125 lkv_X12_202 (tr40 hT) rfl rfl (by first | decide | omega) (Nat.le_of_ble_eq_true rfl) (c_X12_placeIn hT hOE hMH htE (by omega)) ?_
                  rw [hk]
                  refine tmv_V2 131 14 dX12_swap_128 lkv_X12_182 (tr40 hT) rfl rfl (by first | decide | omega) (Nat.le_of_ble_eq_true rfl) (c_X12_leaves hT (c := t) (k := k) (by omega) (by omega) (by omega)) (fun h X1 hT hP128 => ?_)
                  obtain ⟨XS, hXS⟩ : ∃ Z, Z = X1 := ⟨_, rfl⟩
                  rw [← hXS] at hT hP128
                  have hMS : RM (sw OE t s) XS := by unfold sw; rw [if_neg (by omega), hk, Int.toNat_natCast]; exact rm_lv hMH hOE htE hk2 (fun kk _ _ q => hP128.1 kk q.1 q.2) hP128.2.1 hP128.2.2
                  have hCS : CZ X XS 0 := hC1.fm (fun kk q => hP128.1 kk (by omega) (by omega))
                  have e1S : sw OE t s 1 = sw OE t s 1 := rfl
                  have nSS : nS (sw OE t s) = nS O := by unfold nS; rw [sw_l _ (by decide), e1E]
                  have nCS : nC (sw OE t s) = nC O := by unfold nC; rw [sw_l _ (by decide), e1E]
                  have hOS : WO (sw OE t s) := wo_sw hOE htE
                  have t3 := rm_tak hMS s (by omega)
                  have t31 := t3.1
                  have hO3 : WO (xs (sw OE t s) 5 s t 1) := wo_t1 hOS (by omega) (by omega) (by rw [sw_k (by decide) (by decide)]; have := hcon.1.2.1; omega)
                  refine ev_ald0 132 dX12_swap_131 rfl ?_
                  refine ev_getfield 135 14 12 fl_X12_31_14 (tr40 hT) rfl dX12_swap_132 rfl ?_
                  refine ev_ild1 136 dX12_swap_135 rfl ?_
                  refine ev_dup2 137 dX12_swap_136 rfl rfl rfl ?_
                  refine tv_iald 138 (tr52 hT) (s) (by omega) (by omega) (by omega) dX12_swap_137 rfl ?_
                  refine tj_iconst 139 dX12_swap_138 rfl ?_
                  refine ev_ild3 140 dX12_swap_139 rfl ?_
                  refine tj_ishl 141 dX12_swap_140 1 t rfl rfl (by omega) rfl ?_
                  refine tj_ior 142 dX12_swap_141 (XS 52 0 s).toNat (1 <<< t) (by omega) rfl rfl ?_
                  have hbs := bitsE_set t3 (c := t) (by omega) (f2 := xs (sw OE t s) 5 s t 1 5 s) (by rw [xs_at, if_pos rfl]; decide) (fun j hj => by rw [xs_at, if_neg hj])
                  have hb1 := hbs.1
                  have hb2 := hbs.2.1
                  refine tv_iast 143 hT (tv52 hT) (fun _ => rfl) (s) (by omega) (by omega) (by omega) (by first | exact TR.rng hT _ _ _ | exact R31_of _ | exact bi_R _ | (constructor <;> omega)) dX12_swap_142 rfl (fun h hT => ?_)
                  obtain ⟨X3, hX3⟩ : ∃ Z, Z = xs XS 52 0 s (((XS 52 0 s).toNat ||| 1 <<< t : Nat) : Int) := ⟨_, rfl⟩
                  rw [← hX3] at hT
                  have hM3 : RM (xs (sw OE t s) 5 s t 1) X3 := by rw [hX3]; exact rm_t1 hMS (by omega) (by omega) (by omega) (fun k _ _ q => xs_nk q) (fun j => xs_at _ _ _ _ _ _)
                  have hC3 : CZ X X3 0 := by rw [hX3]; exact hCS.st (by decide)
                  refine ev_ald0 144 dX12_swap_143 rfl ?_
                  refine tmv_V0 147 14 dX12_swap_144 lkv_X12_193 (tr40 hT) rfl rfl (by first | decide | omega) (Nat.le_of_ble_eq_true rfl) (c_X12_givesOut hT hO3 hM3) (fun h X1 hT hP144 => ?_)
                  have hMG := hP144.1
                  have hC4 := hC3.fm hP144.2
                  have hsG : (s : Int) < nS (gv (xs (sw OE t s) 5 s t 1)) := by unfold nS; rw [gv_l (by decide), xs_nk (by decide), sw_l _ (by decide), e1E]; exact hs
                  refine ev_ald0 148 dX12_swap_147 rfl ?_
                  refine ev_ald0 149 dX12_swap_148 rfl ?_
                  refine ev_getfield 152 14 12 fl_X12_31_14 (tr40 hT) rfl dX12_swap_149 rfl ?_
                  refine ev_ild1 153 dX12_swap_152 rfl ?_
                  refine tv_iald 154 (tr52 hT) (s) (by omega) (by omega) (by omega) dX12_swap_153 rfl ?_
                  refine tc_V1 157 14 dX12_swap_154 lkv_X12_123 (tr40 hT) rfl rfl (by first | decide | omega) (Nat.le_of_ble_eq_true rfl) (cM_tak hT (wo_gv hO3) hMG hsG) ?_
                  exact ev_ireturn (uq_i (by first | rfl | omega | exact bi_dt (by omega) | exact bi_df (by omega) | (rw [hOEq])) hT (by rw [← hOEq]; exact ⟨hMG, hC4⟩)) rfl dX12_swap_157
              · exact False.elim (by omega)
            · exact False.elim (Bool.false_ne_true (c85.symm.trans hcon.2))
          · exact False.elim (by omega)
        · exact False.elim (by have := hcon.1.2.2; omega)
  · exact False.elim (by omega)
