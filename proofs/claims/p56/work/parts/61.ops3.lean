/-! credit moved in, ends, attempts: what they keep -/
/-- credit moved in for what is not passed -/
def mv (X : XM) (s c : Nat) : XM := xs (xs X 6 s c 1) 8 s c 50
theorem mv_k {X : XM} {s c k : Nat} (h6 : k ≠ 6) (h8 : k ≠ 8) : mv X s c k = X k := by
  unfold mv
  rw [xs_nk h8, xs_nk h6]
theorem mv_6 (X : XM) (s c s2 c2 : Nat) : mv X s c 6 s2 c2 = if s2 = s ∧ c2 = c then 1 else X 6 s2 c2 := by
  unfold mv
  rw [xs_nk (by decide), xs_all]
  by_cases e : s2 = s ∧ c2 = c
  · rw [if_pos e, if_pos ⟨rfl, e⟩]
  · rw [if_neg e, if_neg (fun z => e z.2)]
theorem mv_8 (X : XM) (s c s2 c2 : Nat) : mv X s c 8 s2 c2 = if s2 = s ∧ c2 = c then 50 else X 8 s2 c2 := by
  unfold mv
  rw [xs_all, xs_nk (by decide)]
  by_cases e : s2 = s ∧ c2 = c
  · rw [if_pos e, if_pos ⟨rfl, e⟩]
  · rw [if_neg e, if_neg (fun z => e z.2)]
theorem bsT_mv (X : XM) (s c : Nat) : ∀ k, bsT (mv X s c) s c k = if bsT X s c k < 50 then 50 else bsT X s c k
  | 0 => by
    show (if mvd (mv X s c) s c = true then (50 : Int) else -1) = (if (if mvd X s c = true then (50 : Int) else -1) < 50 then 50 else (if mvd X s c = true then (50 : Int) else -1))
    have e : mvd (mv X s c) s c = true := by unfold mvd; rw [mv_6, if_pos ⟨rfl, rfl⟩]; rfl
    rw [if_pos e]
    by_cases q : mvd X s c = true
    · rw [if_pos q]; rfl
    · rw [if_neg q]; rfl
  | k + 1 => by
    have e11 : mv X s c 11 = X 11 := mv_k (by decide) (by decide)
    show (if bsT (mv X s c) s c k < mv X s c 11 (20 * s + c) k then mv X s c 11 (20 * s + c) k else bsT (mv X s c) s c k) = (if (if bsT X s c k < X 11 (20 * s + c) k then X 11 (20 * s + c) k else bsT X s c k) < 50 then 50 else (if bsT X s c k < X 11 (20 * s + c) k then X 11 (20 * s + c) k else bsT X s c k))
    rw [bsT_mv X s c k, e11]
    generalize bsT X s c k = a
    generalize X 11 (20 * s + c) k = m
    by_cases h1 : a < 50 <;> by_cases h2 : a < m <;> simp only [h1, h2, if_true, if_false] <;> (first | rfl | omega | (split <;> omega) | (split <;> split <;> omega))
theorem bsT_ne {X Y : XM} {s c : Nat} (h6 : Y 6 s c = X 6 s c) : ∀ k : Nat, (∀ j, j < k → Y 11 (20 * s + c) j = X 11 (20 * s + c) j) → bsT Y s c k = bsT X s c k
  | 0, _ => by show (if mvd Y s c = true then (50 : Int) else -1) = (if mvd X s c = true then (50 : Int) else -1); unfold mvd; rw [h6]
  | k + 1, h11 => by
    show (if bsT Y s c k < Y 11 (20 * s + c) k then Y 11 (20 * s + c) k else bsT Y s c k) = _
    rw [bsT_ne h6 k (fun j hj => h11 j (by omega)), h11 k (Nat.lt_succ_self k)]
    rfl
set_option maxHeartbeats 2000000 in
theorem wo_mv {X : XM} (h : WO X) {s c : Nat} (hs : (s : Int) < nS X) (hc : (c : Int) < nC X) (hb : X 8 s c < 50) : WO (mv X s c) := by
  have m1 : mv X s c 1 = X 1 := mv_k (by decide) (by decide)
  have m2 : mv X s c 2 = X 2 := mv_k (by decide) (by decide)
  have k0 : (mv X s c) 0 = X 0 := mv_k (by decide) (by decide)
  have k3 : (mv X s c) 3 = X 3 := mv_k (by decide) (by decide)
  have k4 : (mv X s c) 4 = X 4 := mv_k (by decide) (by decide)
  have k5 : (mv X s c) 5 = X 5 := mv_k (by decide) (by decide)
  have k7 : (mv X s c) 7 = X 7 := mv_k (by decide) (by decide)
  have k9 : (mv X s c) 9 = X 9 := mv_k (by decide) (by decide)
  have k11 : (mv X s c) 11 = X 11 := mv_k (by decide) (by decide)
  have k12 : (mv X s c) 12 = X 12 := mv_k (by decide) (by decide)
  have k13 : (mv X s c) 13 = X 13 := mv_k (by decide) (by decide)
  have k14 : (mv X s c) 14 = X 14 := mv_k (by decide) (by decide)
  have k15 : (mv X s c) 15 = X 15 := mv_k (by decide) (by decide)
  have k16 : (mv X s c) 16 = X 16 := mv_k (by decide) (by decide)
  have l0 : (mv X s c) 1 0 2 = X 1 0 2 := by rw [mv_k (by decide) (by decide)]
  have l1 : (mv X s c) 1 1 2 = X 1 1 2 := by rw [mv_k (by decide) (by decide)]
  have l2 : (mv X s c) 1 2 2 = X 1 2 2 := by rw [mv_k (by decide) (by decide)]
  have l3 : (mv X s c) 1 3 2 = X 1 3 2 := by rw [mv_k (by decide) (by decide)]
  refine ⟨?_, ?_, ?_, ?_, ?_, ?_, ?_, ?_, ?_, ?_, ?_, ?_, ?_, ?_, ?_, ?_, ?_, ?_, ?_, ?_, ?_, ?_, ?_, ?_, ?_, ?_, ?_, ?_, ?_, ?_, ?_, ?_, ?_, ?_, ?_, ?_, ?_, trivial⟩
  · -- nC
    simp only [nC, nS, nF, nR, k0, k3, k4, k5, k7, k9, k11, k12, k13, k14, k15, k16, l0, l1, l2, l3]; exact wo_nC h
  · -- nS
    simp only [nC, nS, nF, nR, k0, k3, k4, k5, k7, k9, k11, k12, k13, k14, k15, k16, l0, l1, l2, l3]; exact wo_nS h
  · -- nF
    simp only [nC, nS, nF, nR, k0, k3, k4, k5, k7, k9, k11, k12, k13, k14, k15, k16, l0, l1, l2, l3]; exact wo_nF h
  · -- nR
    simp only [nC, nS, nF, nR, k0, k3, k4, k5, k7, k9, k11, k12, k13, k14, k15, k16, l0, l1, l2, l3]; exact wo_nR h
  · -- day
    simp only [nC, nS, nF, nR, k0, k3, k4, k5, k7, k9, k11, k12, k13, k14, k15, k16, l0, l1, l2, l3]; exact wo_day h
  · -- term
    simp only [nC, nS, nF, nR, k0, k3, k4, k5, k7, k9, k11, k12, k13, k14, k15, k16, l0, l1, l2, l3]; exact wo_term h
  · -- crd
    simp only [nC, nS, nF, nR, k0, k3, k4, k5, k7, k9, k11, k12, k13, k14, k15, k16, l0, l1, l2, l3]; exact wo_crd h
  · -- sea
    simp only [nC, nS, nF, nR, k0, k3, k4, k5, k7, k9, k11, k12, k13, k14, k15, k16, l0, l1, l2, l3]; exact wo_sea h
  · -- req
    simp only [nC, nS, nF, nR, k0, k3, k4, k5, k7, k9, k11, k12, k13, k14, k15, k16, l0, l1, l2, l3]; exact wo_req h
  · -- res
    simp only [nC, nS, nF, nR, k0, k3, k4, k5, k7, k9, k11, k12, k13, k14, k15, k16, l0, l1, l2, l3]; exact wo_res h
  · -- wN
    simp only [nC, nS, nF, nR, k0, k3, k4, k5, k7, k9, k11, k12, k13, k14, k15, k16, l0, l1, l2, l3]; exact wo_wN h
  · -- wA
    simp only [nC, nS, nF, nR, k0, k3, k4, k5, k7, k9, k11, k12, k13, k14, k15, k16, l0, l1, l2, l3]; exact wo_wA h
  · -- maj
    simp only [nC, nS, nF, nR, k0, k3, k4, k5, k7, k9, k11, k12, k13, k14, k15, k16, l0, l1, l2, l3]; exact wo_maj h
  · -- t01
    simp only [nC, nS, nF, nR, k0, k3, k4, k5, k7, k9, k11, k12, k13, k14, k15, k16, l0, l1, l2, l3]; exact wo_t01 h
  · -- m01
    intro s2 c2 h2; rw [mv_6]; split; (exact Or.inr rfl); (exact wo_m01 h s2 c2 h2)
  · -- tm
    simp only [nC, nS, nF, nR, k0, k3, k4, k5, k7, k9, k11, k12, k13, k14, k15, k16, l0, l1, l2, l3]; exact wo_tm h
  · -- bst
    intro s2 c2 h2 h3; simp only [nS, l1] at h2; rw [mv_8]; split; (exact ⟨by decide, by decide⟩); (exact wo_bst h s2 c2 h2 h3)
  · -- tri
    simp only [nC, nS, nF, nR, k0, k3, k4, k5, k7, k9, k11, k12, k13, k14, k15, k16, l0, l1, l2, l3]; exact wo_tri h
  · -- trd
    simp only [nC, nS, nF, nR, k0, k3, k4, k5, k7, k9, k11, k12, k13, k14, k15, k16, l0, l1, l2, l3]; exact wo_trd h
  · -- bsq
    intro s2 c2 h2 h3; simp only [nS, l1] at h2; rw [mv_8, k9]; by_cases e : s2 = s ∧ c2 = c; (obtain ⟨rfl, rfl⟩ := e; have q := wo_bsq h s2 c2 h2 h3; rw [if_pos ⟨rfl, rfl⟩, bsT_mv, ← q, if_pos hb]); (rw [if_neg e, bsT_ne (by rw [mv_6, if_neg e]) _ (fun j _ => by rw [k11])]; exact wo_bsq h s2 c2 h2 h3)
  · -- far
    intro s2 c2 h2 h3 h4; simp only [nS, nC, l0, l1] at h2 h3; have q := wo_far h s2 c2 h2 h3 h4; have hc2 : (c : Int) < X 1 0 2 := hc; rw [k5, k9, mv_6, if_neg (by omega)]; exact q
  · -- dep
    simp only [nC, nS, nF, nR, k0, k3, k4, k5, k7, k9, k11, k12, k13, k14, k15, k16, l0, l1, l2, l3]; exact wo_dep h
  · -- dp0
    simp only [nC, nS, nF, nR, k0, k3, k4, k5, k7, k9, k11, k12, k13, k14, k15, k16, l0, l1, l2, l3]; exact wo_dp0 h
  · -- fk
    simp only [nC, nS, nF, nR, k0, k3, k4, k5, k7, k9, k11, k12, k13, k14, k15, k16, l0, l1, l2, l3]; exact wo_fk h
  · -- f0
    simp only [nC, nS, nF, nR, k0, k3, k4, k5, k7, k9, k11, k12, k13, k14, k15, k16, l0, l1, l2, l3]; exact wo_f0 h
  · -- f1
    simp only [nC, nS, nF, nR, k0, k3, k4, k5, k7, k9, k11, k12, k13, k14, k15, k16, l0, l1, l2, l3]; exact wo_f1 h
  · -- f2
    simp only [nC, nS, nF, nR, k0, k3, k4, k5, k7, k9, k11, k12, k13, k14, k15, k16, l0, l1, l2, l3]; exact wo_f2 h
  · -- f3
    simp only [nC, nS, nF, nR, k0, k3, k4, k5, k7, k9, k11, k12, k13, k14, k15, k16, l0, l1, l2, l3]; exact wo_f3 h
  · -- f4
    simp only [nC, nS, nF, nR, k0, k3, k4, k5, k7, k9, k11, k12, k13, k14, k15, k16, l0, l1, l2, l3]; exact wo_f4 h
  · -- rul
    simp only [nC, nS, nF, nR, k0, k3, k4, k5, k7, k9, k11, k12, k13, k14, k15, k16, l0, l1, l2, l3]; exact wo_rul h
  · -- r01
    simp only [nC, nS, nF, nR, k0, k3, k4, k5, k7, k9, k11, k12, k13, k14, k15, k16, l0, l1, l2, l3]; exact wo_r01 h
  · -- rm4
    simp only [nC, nS, nF, nR, k0, k3, k4, k5, k7, k9, k11, k12, k13, k14, k15, k16, l0, l1, l2, l3]; exact wo_rm4 h
  · -- tk3
    simp only [nC, nS, nF, nR, k0, k3, k4, k5, k7, k9, k11, k12, k13, k14, k15, k16, l0, l1, l2, l3]; exact wo_tk3 h
  · -- w6
    simp only [nC, nS, nF, nR, k0, k3, k4, k5, k7, k9, k11, k12, k13, k14, k15, k16, l0, l1, l2, l3]; exact wo_w6 h
  · -- wt3
    simp only [nC, nS, nF, nR, k0, k3, k4, k5, k7, k9, k11, k12, k13, k14, k15, k16, l0, l1, l2, l3]; exact wo_wt3 h
  · -- deg
    simp only [nC, nS, nF, nR, k0, k3, k4, k5, k7, k9, k11, k12, k13, k14, k15, k16, l0, l1, l2, l3]; exact wo_deg h
  · -- f7
    simp only [nC, nS, nF, nR, k0, k3, k4, k5, k7, k9, k11, k12, k13, k14, k15, k16, l0, l1, l2, l3]; exact wo_f7 h
theorem wx_mv {ν : Nat → Nat → Bool} {X : XM} (h : WX ν X) {s c : Nat} (hs : (s : Int) < nS X) (hc : (c : Int) < nC X) (hb : X 8 s c < 50) : WX ν (mv X s c) := ⟨wo_mv h.1 hs hc hb, wv_k h.2 (mv_k (by decide) (by decide)) (mv_k (by decide) (by decide))⟩
theorem bsT_50 {X : XM} {s c : Nat} (h : mvd X s c = true) : ∀ k, 50 ≤ bsT X s c k
  | 0 => by show 50 ≤ (if mvd X s c = true then (50 : Int) else -1); rw [if_pos h]; decide
  | k + 1 => by
    have ih := bsT_50 h k
    show 50 ≤ (if bsT X s c k < X 11 (20 * s + c) k then X 11 (20 * s + c) k else bsT X s c k)
    split <;> omega
theorem mvd_no {X : XM} (hO : WO X) {s c : Nat} (hs : (s : Int) < nS X) (hc : c < 20) (hb : X 8 s c < 50) : mvd X s c = false := by
  cases e : mvd X s c
  · rfl
  · have q := bsT_50 e (X 9 s c).toNat
    rw [← wo_bsq hO s c hs hc] at q
    omega
theorem crS_add {X : XM} {p q : Nat → Bool} {c : Nat} (h0 : p c = false) (h1 : q c = true) (h : ∀ j, j ≠ c → q j = p j) : ∀ n, crS X q n = crS X p n + (if c < n then X 12 c 1 else 0)
  | 0 => by rw [if_neg (Nat.not_lt_zero c)]; rfl
  | n + 1 => by
    rw [crS_s, crS_s, crS_add h0 h1 h n]
    by_cases e : n = c
    · subst e; rw [h0, h1, if_neg (Nat.lt_irrefl n), if_pos rfl, if_neg (by decide), if_pos (Nat.lt_succ_self n)]
    · rw [h n e]
      by_cases q : c < n
      · rw [if_pos q, if_pos (show c < n + 1 by omega)]; omega
      · rw [if_neg q, if_neg (show ¬ c < n + 1 by omega)]; omega
theorem movd_mv {X : XM} (hO : WO X) {s c : Nat} (hs : (s : Int) < nS X) (hc : (c : Int) < nC X) (hb : X 8 s c < 50) : movd (mv X s c) s = movd X s + X 12 c 1 := by
  have q := wo_nC hO
  have e0 := mvd_no hO hs (show c < 20 by omega) hb
  unfold movd
  have en : nC (mv X s c) = nC X := by unfold nC; rw [mv_k (by decide) (by decide)]
  rw [en, crS_eq (mv_k (by decide) (by decide)), crS_add (p := mvd X s) (c := c) e0 (by unfold mvd; rw [mv_6, if_pos ⟨rfl, rfl⟩]; rfl) (fun j hj => by unfold mvd; rw [mv_6, if_neg (fun z => hj z.2)]), if_pos (by omega)]
theorem movd_gv (X : XM) (s : Nat) : movd (gv X) s = movd X s := by
  unfold movd
  have en : nC (gv X) = nC X := gv_l (by decide)
  rw [en, crS_eq (gv_k (by decide) (by decide) (by decide))]
  refine crS_cg _ (fun j _ => ?_)
  unfold mvd
  rw [gv_k (by decide) (by decide) (by decide)]
