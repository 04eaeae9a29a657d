/-! what stands when other kinds change; sums, last marks, reasons -/
theorem wo_cg {X X1 : XM} (h : WO X) (hk : ∀ k, k < 17 → X1 k = X k) : WO X1 := by
  have e0 : X1 0 = X 0 := hk 0 (by decide)
  have e1 : X1 1 = X 1 := hk 1 (by decide)
  have e2 : X1 2 = X 2 := hk 2 (by decide)
  have e3 : X1 3 = X 3 := hk 3 (by decide)
  have e4 : X1 4 = X 4 := hk 4 (by decide)
  have e5 : X1 5 = X 5 := hk 5 (by decide)
  have e6 : X1 6 = X 6 := hk 6 (by decide)
  have e7 : X1 7 = X 7 := hk 7 (by decide)
  have e8 : X1 8 = X 8 := hk 8 (by decide)
  have e9 : X1 9 = X 9 := hk 9 (by decide)
  have e11 : X1 11 = X 11 := hk 11 (by decide)
  have e12 : X1 12 = X 12 := hk 12 (by decide)
  have e13 : X1 13 = X 13 := hk 13 (by decide)
  have e14 : X1 14 = X 14 := hk 14 (by decide)
  have e15 : X1 15 = X 15 := hk 15 (by decide)
  have e16 : X1 16 = X 16 := hk 16 (by decide)
  have kb : bsT X1 = bsT X := bsT_cg e6 e11
  refine ⟨?_, ?_, ?_, ?_, ?_, ?_, ?_, ?_, ?_, ?_, ?_, ?_, ?_, ?_, ?_, ?_, ?_, ?_, ?_, ?_, ?_, ?_, ?_, ?_, ?_, ?_, ?_, ?_, ?_, ?_, ?_, ?_, ?_, ?_, ?_, ?_, ?_, trivial⟩
  · try simp only [nC, nS, nF, nR, e0, e1, e2, e3, e4, e5, e6, e7, e8, e9, e11, e12, e13, e14, e15, e16, kb]
    exact wo_nC h
  · try simp only [nC, nS, nF, nR, e0, e1, e2, e3, e4, e5, e6, e7, e8, e9, e11, e12, e13, e14, e15, e16, kb]
    exact wo_nS h
  · try simp only [nC, nS, nF, nR, e0, e1, e2, e3, e4, e5, e6, e7, e8, e9, e11, e12, e13, e14, e15, e16, kb]
    exact wo_nF h
  · try simp only [nC, nS, nF, nR, e0, e1, e2, e3, e4, e5, e6, e7, e8, e9, e11, e12, e13, e14, e15, e16, kb]
    exact wo_nR h
  · try simp only [nC, nS, nF, nR, e0, e1, e2, e3, e4, e5, e6, e7, e8, e9, e11, e12, e13, e14, e15, e16, kb]
    exact wo_day h
  · try simp only [nC, nS, nF, nR, e0, e1, e2, e3, e4, e5, e6, e7, e8, e9, e11, e12, e13, e14, e15, e16, kb]
    exact wo_term h
  · try simp only [nC, nS, nF, nR, e0, e1, e2, e3, e4, e5, e6, e7, e8, e9, e11, e12, e13, e14, e15, e16, kb]
    exact wo_crd h
  · try simp only [nC, nS, nF, nR, e0, e1, e2, e3, e4, e5, e6, e7, e8, e9, e11, e12, e13, e14, e15, e16, kb]
    exact wo_sea h
  · try simp only [nC, nS, nF, nR, e0, e1, e2, e3, e4, e5, e6, e7, e8, e9, e11, e12, e13, e14, e15, e16, kb]
    exact wo_req h
  · try simp only [nC, nS, nF, nR, e0, e1, e2, e3, e4, e5, e6, e7, e8, e9, e11, e12, e13, e14, e15, e16, kb]
    exact wo_res h
  · try simp only [nC, nS, nF, nR, e0, e1, e2, e3, e4, e5, e6, e7, e8, e9, e11, e12, e13, e14, e15, e16, kb]
    exact wo_wN h
  · try simp only [nC, nS, nF, nR, e0, e1, e2, e3, e4, e5, e6, e7, e8, e9, e11, e12, e13, e14, e15, e16, kb]
    exact wo_wA h
  · try simp only [nC, nS, nF, nR, e0, e1, e2, e3, e4, e5, e6, e7, e8, e9, e11, e12, e13, e14, e15, e16, kb]
    exact wo_maj h
  · try simp only [nC, nS, nF, nR, e0, e1, e2, e3, e4, e5, e6, e7, e8, e9, e11, e12, e13, e14, e15, e16, kb]
    exact wo_t01 h
  · try simp only [nC, nS, nF, nR, e0, e1, e2, e3, e4, e5, e6, e7, e8, e9, e11, e12, e13, e14, e15, e16, kb]
    exact wo_m01 h
  · try simp only [nC, nS, nF, nR, e0, e1, e2, e3, e4, e5, e6, e7, e8, e9, e11, e12, e13, e14, e15, e16, kb]
    exact wo_tm h
  · try simp only [nC, nS, nF, nR, e0, e1, e2, e3, e4, e5, e6, e7, e8, e9, e11, e12, e13, e14, e15, e16, kb]
    exact wo_bst h
  · try simp only [nC, nS, nF, nR, e0, e1, e2, e3, e4, e5, e6, e7, e8, e9, e11, e12, e13, e14, e15, e16, kb]
    exact wo_tri h
  · try simp only [nC, nS, nF, nR, e0, e1, e2, e3, e4, e5, e6, e7, e8, e9, e11, e12, e13, e14, e15, e16, kb]
    exact wo_trd h
  · try simp only [nC, nS, nF, nR, e0, e1, e2, e3, e4, e5, e6, e7, e8, e9, e11, e12, e13, e14, e15, e16, kb]
    exact wo_bsq h
  · try simp only [nC, nS, nF, nR, e0, e1, e2, e3, e4, e5, e6, e7, e8, e9, e11, e12, e13, e14, e15, e16, kb]
    exact wo_far h
  · try simp only [nC, nS, nF, nR, e0, e1, e2, e3, e4, e5, e6, e7, e8, e9, e11, e12, e13, e14, e15, e16, kb]
    exact wo_dep h
  · try simp only [nC, nS, nF, nR, e0, e1, e2, e3, e4, e5, e6, e7, e8, e9, e11, e12, e13, e14, e15, e16, kb]
    exact wo_dp0 h
  · try simp only [nC, nS, nF, nR, e0, e1, e2, e3, e4, e5, e6, e7, e8, e9, e11, e12, e13, e14, e15, e16, kb]
    exact wo_fk h
  · try simp only [nC, nS, nF, nR, e0, e1, e2, e3, e4, e5, e6, e7, e8, e9, e11, e12, e13, e14, e15, e16, kb]
    exact wo_f0 h
  · try simp only [nC, nS, nF, nR, e0, e1, e2, e3, e4, e5, e6, e7, e8, e9, e11, e12, e13, e14, e15, e16, kb]
    exact wo_f1 h
  · try simp only [nC, nS, nF, nR, e0, e1, e2, e3, e4, e5, e6, e7, e8, e9, e11, e12, e13, e14, e15, e16, kb]
    exact wo_f2 h
  · try simp only [nC, nS, nF, nR, e0, e1, e2, e3, e4, e5, e6, e7, e8, e9, e11, e12, e13, e14, e15, e16, kb]
    exact wo_f3 h
  · try simp only [nC, nS, nF, nR, e0, e1, e2, e3, e4, e5, e6, e7, e8, e9, e11, e12, e13, e14, e15, e16, kb]
    exact wo_f4 h
  · try simp only [nC, nS, nF, nR, e0, e1, e2, e3, e4, e5, e6, e7, e8, e9, e11, e12, e13, e14, e15, e16, kb]
    exact wo_rul h
  · try simp only [nC, nS, nF, nR, e0, e1, e2, e3, e4, e5, e6, e7, e8, e9, e11, e12, e13, e14, e15, e16, kb]
    exact wo_r01 h
  · try simp only [nC, nS, nF, nR, e0, e1, e2, e3, e4, e5, e6, e7, e8, e9, e11, e12, e13, e14, e15, e16, kb]
    exact wo_rm4 h
  · try simp only [nC, nS, nF, nR, e0, e1, e2, e3, e4, e5, e6, e7, e8, e9, e11, e12, e13, e14, e15, e16, kb]
    exact wo_tk3 h
  · try simp only [nC, nS, nF, nR, e0, e1, e2, e3, e4, e5, e6, e7, e8, e9, e11, e12, e13, e14, e15, e16, kb]
    exact wo_w6 h
  · try simp only [nC, nS, nF, nR, e0, e1, e2, e3, e4, e5, e6, e7, e8, e9, e11, e12, e13, e14, e15, e16, kb]
    exact wo_wt3 h
  · try simp only [nC, nS, nF, nR, e0, e1, e2, e3, e4, e5, e6, e7, e8, e9, e11, e12, e13, e14, e15, e16, kb]
    exact wo_deg h
  · try simp only [nC, nS, nF, nR, e0, e1, e2, e3, e4, e5, e6, e7, e8, e9, e11, e12, e13, e14, e15, e16, kb]
    exact wo_f7 h
theorem wv_cg {ν : Nat → Nat → Bool} {X X1 : XM} (h : WV ν X) (hk : ∀ k, k < 17 → X1 k = X k) : WV ν X1 := by
  have e0 : X1 0 = X 0 := hk 0 (by decide)
  have e1 : X1 1 = X 1 := hk 1 (by decide)
  have e2 : X1 2 = X 2 := hk 2 (by decide)
  have e3 : X1 3 = X 3 := hk 3 (by decide)
  have e4 : X1 4 = X 4 := hk 4 (by decide)
  have e5 : X1 5 = X 5 := hk 5 (by decide)
  have e6 : X1 6 = X 6 := hk 6 (by decide)
  have e7 : X1 7 = X 7 := hk 7 (by decide)
  have e8 : X1 8 = X 8 := hk 8 (by decide)
  have e9 : X1 9 = X 9 := hk 9 (by decide)
  have e11 : X1 11 = X 11 := hk 11 (by decide)
  have e12 : X1 12 = X 12 := hk 12 (by decide)
  have e13 : X1 13 = X 13 := hk 13 (by decide)
  have e14 : X1 14 = X 14 := hk 14 (by decide)
  have e15 : X1 15 = X 15 := hk 15 (by decide)
  have e16 : X1 16 = X 16 := hk 16 (by decide)
  have kb : bsT X1 = bsT X := bsT_cg e6 e11
  refine ⟨?_, ?_, ?_, ?_, ?_, ?_, ?_, ?_, ?_, ?_, ?_, trivial⟩
  · try simp only [nC, nS, nF, nR, e0, e1, e2, e3, e4, e5, e6, e7, e8, e9, e11, e12, e13, e14, e15, e16, kb]
    exact wv_stu h
  · try simp only [nC, nS, nF, nR, e0, e1, e2, e3, e4, e5, e6, e7, e8, e9, e11, e12, e13, e14, e15, e16, kb]
    exact wv_new h
  · try simp only [nC, nS, nF, nR, e0, e1, e2, e3, e4, e5, e6, e7, e8, e9, e11, e12, e13, e14, e15, e16, kb]
    exact wv_crs h
  · try simp only [nC, nS, nF, nR, e0, e1, e2, e3, e4, e5, e6, e7, e8, e9, e11, e12, e13, e14, e15, e16, kb]
    exact wv_rul h
  · try simp only [nC, nS, nF, nR, e0, e1, e2, e3, e4, e5, e6, e7, e8, e9, e11, e12, e13, e14, e15, e16, kb]
    exact wv_frm h
  · try simp only [nC, nS, nF, nR, e0, e1, e2, e3, e4, e5, e6, e7, e8, e9, e11, e12, e13, e14, e15, e16, kb]
    exact wv_lst h
  · try simp only [nC, nS, nF, nR, e0, e1, e2, e3, e4, e5, e6, e7, e8, e9, e11, e12, e13, e14, e15, e16, kb]
    exact wv_ls0 h
  · try simp only [nC, nS, nF, nR, e0, e1, e2, e3, e4, e5, e6, e7, e8, e9, e11, e12, e13, e14, e15, e16, kb]
    exact wv_le h
  · try simp only [nC, nS, nF, nR, e0, e1, e2, e3, e4, e5, e6, e7, e8, e9, e11, e12, e13, e14, e15, e16, kb]
    exact wv_wst h
  · try simp only [nC, nS, nF, nR, e0, e1, e2, e3, e4, e5, e6, e7, e8, e9, e11, e12, e13, e14, e15, e16, kb]
    exact wv_ws0 h
  · try simp only [nC, nS, nF, nR, e0, e1, e2, e3, e4, e5, e6, e7, e8, e9, e11, e12, e13, e14, e15, e16, kb]
    exact wv_cap h
theorem wx_cg {ν : Nat → Nat → Bool} {X X1 : XM} (h : WX ν X) (hk : ∀ k, k < 17 → X1 k = X k) : WX ν X1 := ⟨wo_cg h.1 hk, wv_cg h.2 hk⟩
def allE (O : XM) : Nat → Int
  | 0 => 0
  | n + 1 => allE O n + ernd O n
/-- the last of the first k attempts that is a mark -/
def lmT (O : XM) (s c : Nat) : Nat → Int
  | 0 => -1
  | k + 1 => if O 11 (20 * s + c) k = -1 then lmT O s c k else O 11 (20 * s + c) k
theorem lmT_R {O : XM} (hO : WO O) {s c : Nat} (hs : (s : Int) < nS O) (hc : c < 20) : ∀ k : Nat, (k : Int) ≤ O 9 s c → -1 ≤ lmT O s c k ∧ lmT O s c k ≤ 100
  | 0, _ => ⟨by show (-1 : Int) ≤ -1; omega, by show (-1 : Int) ≤ 100; omega⟩
  | k + 1, hk => by
    have h1 := lmT_R hO hs hc k (by omega)
    have h2 := wo_trd hO s c k hs hc (by omega)
    show -1 ≤ (if _ then _ else _) ∧ (if _ then _ else _) ≤ (100 : Int)
    split <;> omega
def lastM (O : XM) (s c : Nat) : Int := lmT O s c (O 9 s c).toNat
/-- the part behind a formula in a reason -/
def nx (O : XM) (s f : Nat) : Nat := if hol O s (O 16 f 2).toNat = true then (O 16 f 3).toNat else (O 16 f 2).toNat
/-- a reason from f on: how long, and its last -/
def rsn (O : XM) (s : Nat) : Nat → Nat → Nat × Nat
  | 0, f => (1, f)
  | n + 1, f => if O 16 f 9 = 3 then ((rsn O s n (nx O s f)).1 + 1, (rsn O s n (nx O s f)).2) else (1, f)
theorem nx_of {O : XM} (hO : WO O) {s f : Nat} (hf : (f : Int) < nF O) (h3 : O 16 f 9 = 3) (hh : hol O s f = false) : (nx O s f : Int) < nF O ∧ hol O s (nx O s f) = false ∧ O 16 (nx O s f) 0 < O 16 f 0 := by
  obtain ⟨b1, b2, b3, b4, b5, b6, b7, b8, b9, b10, b11⟩ := wo_f3 hO f hf h3
  unfold hol at hh
  rw [holF_3 h3 ⟨b1, b2⟩ ⟨b3, b4⟩ ⟨b5, b6⟩] at hh
  have z3 := bi_01 (decide (O 16 f 4 ≠ -1) && holF O (O 8 s) (tak O s) (ernd O s) (O 16 f 4).toNat)
  have hh2 := of_decide_eq_false hh
  unfold nx
  by_cases c : hol O s (O 16 f 2).toNat = true
  · rw [if_pos c]
    refine ⟨by omega, ?_, b10⟩
    cases q : hol O s (O 16 f 3).toNat
    · rfl
    · exfalso
      unfold hol at c q
      rw [c, q] at hh2
      simp only [bi_t] at hh2
      omega
  · rw [if_neg c]
    exact ⟨by omega, by simpa using c, b9⟩
theorem rsn_e {O : XM} {s n f : Nat} (h : O 16 f 9 ≠ 3) : rsn O s (n + 1) f = (1, f) := by rw [rsn, if_neg h]
theorem rsn_3 {O : XM} {s n f : Nat} (h : O 16 f 9 = 3) : rsn O s (n + 1) f = ((rsn O s n (nx O s f)).1 + 1, (rsn O s n (nx O s f)).2) := by rw [rsn, if_pos h]
theorem rsn_k {O : XM} {s r k n f : Nat} (he : rsn O s 6 r = (k + (rsn O s (n + 1) f).1, (rsn O s (n + 1) f).2)) (h : O 16 f 9 = 3) : rsn O s 6 r = (k + 1 + (rsn O s n (nx O s f)).1, (rsn O s n (nx O s f)).2) := by
  rw [he, rsn_3 h]
  exact congrArg (fun z => (z, (rsn O s n (nx O s f)).2)) (by show k + ((rsn O s n (nx O s f)).1 + 1) = _; omega)
theorem rsn_l {O : XM} {s r k n f : Nat} (he : rsn O s 6 r = (k + (rsn O s (n + 1) f).1, (rsn O s (n + 1) f).2)) (h : O 16 f 9 ≠ 3) : rsn O s 6 r = (k + 1, f) := by
  rw [he, rsn_e h]
/-- the whole reason of a course -/
def rsnC (O : XM) (s c : Nat) : Nat × Nat := rsn O s 6 (O 12 c 5).toNat
