/-! THE OFFICE UNDER WAY -/
/-- a formula as the law wrote it down, over its numbers -/
def FTV (a b c d : Int) (y : Nat → Int) : Prop := (0 ≤ a ∧ a ≤ 6) ∧ (a = 0 → y 9 = 0 ∧ b = y 1 ∧ c = y 2) ∧ (a = 1 → y 9 = 1 ∧ b = y 1) ∧ (a = 2 → y 9 = 2 ∧ b = y 1) ∧ (a = 3 → y 9 = 3 ∧ y 1 = 2 ∧ y 4 = -1 ∧ b = y 2 ∧ c = y 3) ∧ (a = 4 → y 9 = 3 ∧ y 1 = 1 ∧ y 4 = -1 ∧ b = y 2 ∧ c = y 3) ∧ (a = 5 → y 9 = 3 ∧ y 1 = 2 ∧ 0 ≤ y 4 ∧ b = y 2 ∧ c = y 3 ∧ d = y 4) ∧ (a = 6 → y 9 = 4 ∧ b = y 1)
theorem FTV_of {X : XM} {f : Nat} (h : FTV (X 41 0 f) (X 42 0 f) (X 43 0 f) (X 44 0 f) (X 16 f)) : FTX X f := h
theorem FTV_to {X : XM} {f : Nat} (h : FTX X f) : FTV (X 41 0 f) (X 42 0 f) (X 43 0 f) (X 44 0 f) (X 16 f) := h
theorem FTV_y {a b c d k a0 a1 a2 a3 a4 : Int} (h1 : 0 ≤ a ∧ a ≤ 6) (h2 : a = 0 → k = 0 ∧ b = a1 ∧ c = a2) (h3 : a = 1 → k = 1 ∧ b = a1) (h4 : a = 2 → k = 2 ∧ b = a1) (h5 : a = 3 → k = 3 ∧ a1 = 2 ∧ a4 = -1 ∧ b = a2 ∧ c = a3) (h6 : a = 4 → k = 3 ∧ a1 = 1 ∧ a4 = -1 ∧ b = a2 ∧ c = a3) (h7 : a = 5 → k = 3 ∧ a1 = 2 ∧ 0 ≤ a4 ∧ b = a2 ∧ c = a3 ∧ d = a4) (h8 : a = 6 → k = 4 ∧ b = a1) : FTV a b c d (yF k a0 a1 a2 a3 a4) := ⟨h1, h2, h3, h4, h5, h6, h7, h8⟩
theorem FY_y {X : XM} {n : Nat} {k a0 a1 a2 a3 a4 : Int} (h0 : 0 ≤ a0 ∧ a0 ≤ 5) (h9 : 0 ≤ k ∧ k ≤ 4) (k0 : k = 0 → 0 ≤ a1 ∧ a1 < nC X ∧ 0 ≤ a2 ∧ a2 ≤ 100 ∧ a0 = 0) (k1 : k = 1 → 0 ≤ a1 ∧ a1 < nC X ∧ a0 = 0) (k2 : k = 2 → 0 ≤ a1 ∧ a1 ≤ 120 ∧ a0 = 0) (k3 : k = 3 → 0 ≤ a2 ∧ a2 < n ∧ 0 ≤ a3 ∧ a3 < n ∧ -1 ≤ a4 ∧ a4 < n ∧ (a1 = 1 ∨ a1 = 2) ∧ (a4 ≠ -1 → a1 = 2) ∧ X 16 a2.toNat 0 < a0 ∧ X 16 a3.toNat 0 < a0 ∧ (a4 ≠ -1 → X 16 a4.toNat 0 < a0)) (k4 : k = 4 → 0 ≤ a1 ∧ a1 < n ∧ X 16 a1.toNat 0 < a0) : FY X n (yF k a0 a1 a2 a3 a4) := ⟨h0, h9, k0, k1, k2, k3, k4⟩
/-- no enrollment, nobody who waits, no mark, no seats kept; the first day -/
def OB (X : XM) : Prop := (∀ s c, X 5 s c = 0) ∧ (∀ c : Nat, (c : Int) < nC X → X 1 (4 + c) 2 = 0) ∧ (∀ s c : Nat, (s : Int) < nS X → c < 5 → X 7 s c = -1) ∧ X 0 0 6 = 0 ∧ (∀ c : Nat, c < 5 → X 45 0 c = -1) ∧ (∀ j, X 48 0 j = 0)
def DPy (f : Nat) (v : Int) : Prop := v ≤ 3 ∧ (f < 6 → v ≤ 2) ∧ (f < 5 → v ≤ 1) ∧ (f < 4 → v ≤ 0)
def OFI (n m f : Nat) (ν : Nat → Nat → Bool) (X : XM) : Prop := WX ν X ∧ NV ν X ∧ (nC X = n ∧ nS X = m ∧ nF X = f) ∧ OB X ∧ TLC X n ∧ TLS X m ∧ TLF X f ∧ ∀ i : Nat, i < f → DPy i (X 16 i 0)
section OFI1
variable {α α' : AL} {ν ν' : Nat → Nat → Bool} {X X' : XM} {n m f : Nat}
theorem OFI_xs {k j : Nat} {v : Int} (h : OFI n m f ν X) (hk : k = 41 ∨ k = 42 ∨ k = 43 ∨ k = 44 ∨ k = 46 ∨ k = 47 ∨ k = 49) (h1 : k = 46 ∨ k = 47 → n ≤ j) (h2 : k = 49 → m ≤ j) (h3 : k ≤ 44 → f ≤ j) : OFI n m f ν (xs X k 0 j v) := by
  obtain ⟨hW, hV, ⟨c1, c2, c3⟩, ⟨b5, bw, b7, bt, b45, b48⟩, tc, ts, tf, dp⟩ := h
  have e : ∀ k2, k2 < 31 → xs X k 0 j v k2 = X k2 := fun k2 q => xs_nk (by omega)
  have eC : nC (xs X k 0 j v) = nC X := by unfold nC; rw [e 1 (by decide)]
  have eS : nS (xs X k 0 j v) = nS X := by unfold nS; rw [e 1 (by decide)]
  have eF : nF (xs X k 0 j v) = nF X := by unfold nF; rw [e 1 (by decide)]
  have q : ∀ k2 j2, (k2 = k → j2 ≠ j) → xs X k 0 j v k2 0 j2 = X k2 0 j2 := fun k2 j2 z => by rw [xs_all, if_neg (fun y => z y.1 y.2.2)]
  refine ⟨wx_cg hW (fun k2 z => e k2 (by omega)), nv_kp hV (KP.same (e 1 (by decide)) (e 2 (by decide))), ⟨by omega, by omega, by omega⟩, ⟨fun s c => by rw [e 5 (by decide)]; exact b5 s c, fun c z => by rw [e 1 (by decide)]; exact bw c (by omega), fun s c z z2 => by rw [e 7 (by decide)]; exact b7 s c (by omega) z2, by rw [e 0 (by decide)]; exact bt, fun c z => by rw [q 45 c (by omega)]; exact b45 c z, fun j2 => by rw [q 48 j2 (by omega)]; exact b48 j2⟩, fun c hc => ?_, fun s hs => ?_, fun i hi => ?_, fun i hi => by rw [e 16 (by decide)]; exact dp i hi⟩
  · have t := tc c hc
    rw [q 45 c (by omega), q 46 c (by omega), q 47 c (by omega), e 12 (by decide), e 13 (by decide)]
    exact ⟨t.1, t.2.1, t.2.2.1, fun m2 hm2 => by rw [q 48 _ (by omega)]; exact t.2.2.2.1 m2 hm2, t.2.2.2.2⟩
  · rw [q 49 s (by omega), e 4 (by decide)]; exact ts s hs
  · refine FTV_of ?_
    rw [q 41 i (by omega), q 42 i (by omega), q 43 i (by omega), q 44 i (by omega), e 16 (by decide)]
    exact FTV_to (tf i hi)
theorem OFI_C {a0 a1 : Int} (h : OFI n 0 0 ν X) (hn : n < 5) (h46 : X 46 0 n = a0) (h47 : X 47 0 n = a1) (h0 : 1 ≤ a0 ∧ a0 ≤ 6) (h1 : 1 ≤ a1 ∧ a1 ≤ 12) (hP : MK α ν X (12, n) (xC a0 a1) 0 n α' ν' X') : (α' 0 0 = α 0 0 ∧ α' 40 0 = α 40 0) ∧ OFI (n + 1) 0 0 ν' X' := by
  obtain ⟨hW, hV, ⟨c1, c2, c3⟩, ⟨b5, bw, b7, bt, b45, b48⟩, tc, ts, tf, dp⟩ := h
  obtain ⟨x1, x2, x3⟩ := mk_x hP (show (12 : Nat) ≠ 2 by decide) (fun e => by have := gk_12 e; omega)
  have hw := wx_mkC h0 h1 (by omega) hW hV c1 hP
  have e : ∀ k, k ≠ 1 → k ≠ 2 → k ≠ 12 → k ≠ 13 → X' k = X k := fun k z1 z2 z3 z4 => funext fun j => x1 k j (fun e => by have := gk_12 e; omega) (fun y => z1 y.1) (fun y => z2 y.1)
  have e1 : ∀ j, j ≠ 0 → j ≠ 4 + n → X' 1 j = X 1 j := fun j z1 z2 => x1 1 j (fun e => by have := gk_12 e; omega) (fun y => z1 y.2) (fun y => absurd y.1 (by decide))
  have e12 : ∀ c, c ≠ n → X' 12 c = X 12 c ∧ X' 13 c = X 13 c := fun c z => ⟨x1 12 c (fun e => by have := gk_12 e; omega) (fun y => absurd y.1 (by decide)) (fun y => absurd y.1 (by decide)), x1 13 c (fun e => by have := gk_12 e; omega) (fun y => absurd y.1 (by decide)) (fun y => absurd y.1 (by decide))⟩
  obtain ⟨g12, g13, g1⟩ := gk_12n n
  have n12 : X' 12 n = xC a0 a1 12 n := x2 12 n g12
  have n13 : X' 13 n = xC a0 a1 13 n := x2 13 n g13
  have n1 : X' 1 (4 + n) = xC a0 a1 1 (4 + n) := x2 1 (4 + n) g1
  have eC : nC X' = nC X + 1 := x3
  have eS : nS X' = nS X := by unfold nS; rw [e1 1 (by decide) (by omega)]
  have eF : nF X' = nF X := by unfold nF; rw [e1 2 (by decide) (by omega)]
  have k4 := e 4 (by decide) (by decide) (by decide) (by decide)
  have k5 := e 5 (by decide) (by decide) (by decide) (by decide)
  have k7 := e 7 (by decide) (by decide) (by decide) (by decide)
  have k0 := e 0 (by decide) (by decide) (by decide) (by decide)
  have k45 := e 45 (by decide) (by decide) (by decide) (by decide)
  have k46 := e 46 (by decide) (by decide) (by decide) (by decide)
  have k47 := e 47 (by decide) (by decide) (by decide) (by decide)
  have k48 := e 48 (by decide) (by decide) (by decide) (by decide)
  refine ⟨⟨mk_a hP (fun e => by have := gk_12 e; omega) (by omega), mk_a hP (fun e => by have := gk_12 e; omega) (by omega)⟩, hw.1, hw.2, ⟨by omega, by omega, by omega⟩, ⟨fun s c => by rw [k5]; exact b5 s c, fun c z => ?_, fun s c z z2 => by rw [k7]; exact b7 s c (by omega) z2, by rw [k0]; exact bt, fun c z => by rw [k45]; exact b45 c z, fun j => by rw [k48]; exact b48 j⟩, fun c hc => ?_, fun s hs => absurd hs (Nat.not_lt_zero _), fun i hi => absurd hi (Nat.not_lt_zero _), fun i hi => absurd hi (Nat.not_lt_zero _)⟩
  · by_cases q : c = n
    · subst q; rw [n1]; rfl
    · rw [e1 (4 + c) (by omega) (by omega)]; exact bw c (by omega)
  · rw [k45, k46, k47, k48]
    by_cases q : c = n
    · subst q
      rw [n12, n13, h46, h47, b45 c hn]
      refine ⟨rfl, rfl, rfl, fun m2 hm2 => b48 _, ?_⟩
      show (0 : Int) + 0 + 0 + 0 ≤ a1
      omega
    · have t := tc c (by omega)
      rw [(e12 c q).1, (e12 c q).2]
      exact t
theorem OFI_S {a0 : Int} (h : OFI 5 n 0 ν X) (hn : n < 5) (h49 : X 49 0 n = a0) (h0 : 0 ≤ a0 ∧ a0 ≤ 3) (hP : MK α ν X (4, n) (xS a0) 1 n α' ν' X') : (α' 0 0 = α 0 0 ∧ α' 40 0 = α 40 0) ∧ OFI 5 (n + 1) 0 ν' X' := by
  obtain ⟨hW, hV, ⟨c1, c2, c3⟩, ⟨b5, bw, b7, bt, b45, b48⟩, tc, ts, tf, dp⟩ := h
  obtain ⟨x1, x2, x3⟩ := mk_x hP (show (4 : Nat) ≠ 2 by decide) (fun e => by have := gk_4 e; omega)
  have hw := wx_mkS h0 (by omega) hW hV c2 hP
  have e : ∀ k, k ≠ 1 → k ≠ 2 → k < 4 ∨ 11 < k → X' k = X k := fun k z1 z2 z3 => funext fun j => x1 k j (fun e => by have := gk_4 e; omega) (fun y => z1 y.1) (fun y => z2 y.1)
  have e1 : ∀ j, j ≠ 1 → X' 1 j = X 1 j := fun j z1 => x1 1 j (fun e => by have := gk_4 e; omega) (fun y => z1 y.2) (fun y => absurd y.1 (by decide))
  have es : ∀ k s, 4 ≤ k → k ≤ 10 → s ≠ n → X' k s = X k s := fun k s z1 z2 z => x1 k s (fun e => by have := gk_4 e; omega) (fun y => by omega) (fun y => by omega)
  have en : ∀ k, 4 ≤ k → k ≤ 10 → X' k n = xS a0 k n := fun k z1 z2 => x2 k n (gk_4n n k z1 z2)
  have eC : nC X' = nC X := by unfold nC; rw [e1 0 (by decide)]
  have eS : nS X' = nS X + 1 := x3
  have eF : nF X' = nF X := by unfold nF; rw [e1 2 (by decide)]
  refine ⟨⟨mk_a hP (fun e => by have := gk_4 e; omega) (by omega), mk_a hP (fun e => by have := gk_4 e; omega) (by omega)⟩, hw.1, hw.2, ⟨by omega, by omega, by omega⟩, ⟨fun s c => ?_, fun c z => by rw [e1 _ (by omega)]; exact bw c (by omega), fun s c z z2 => ?_, by rw [e 0 (by decide) (by decide) (by decide)]; exact bt, fun c z => by rw [e 45 (by decide) (by decide) (by decide)]; exact b45 c z, fun j => by rw [e 48 (by decide) (by decide) (by decide)]; exact b48 j⟩, fun c hc => ?_, fun s hs => ?_, fun i hi => absurd hi (Nat.not_lt_zero _), fun i hi => absurd hi (Nat.not_lt_zero _)⟩
  · by_cases q : s = n
    · subst q; rw [en 5 (by decide) (by decide)]; rfl
    · rw [es 5 s (by decide) (by decide) q]; exact b5 s c
  · by_cases q : s = n
    · subst q
      rw [en 7 (by decide) (by decide)]
      show (if c < 20 then (-1 : Int) else 0) = -1
      rw [if_pos (by omega)]
    · rw [es 7 s (by decide) (by decide) q]; exact b7 s c (by omega) z2
  · rw [e 45 (by decide) (by decide) (by decide), e 46 (by decide) (by decide) (by decide), e 47 (by decide) (by decide) (by decide), e 48 (by decide) (by decide) (by decide), e 12 (by decide) (by decide) (by decide), e 13 (by decide) (by decide) (by decide)]
    exact tc c hc
  · rw [e 49 (by decide) (by decide) (by decide)]
    by_cases q : s = n
    · subst q; rw [en 4 (by decide) (by decide), h49]; rfl
    · rw [es 4 s (by decide) (by decide) q]; exact ts s (by omega)
theorem OFI_F {k a0 a1 a2 a3 a4 : Int} (h : OFI 5 5 f ν X) (hf : f < 12) (hy : FY X f (yF k a0 a1 a2 a3 a4)) (hd : DPy f a0) (ht : FTV (X 41 0 f) (X 42 0 f) (X 43 0 f) (X 44 0 f) (yF k a0 a1 a2 a3 a4)) (hP : MK α ν X (16, f) (fun _ _ => yF k a0 a1 a2 a3 a4) 2 f α' ν' X') : (α' 0 0 = α 0 0 ∧ α' 40 0 = α 40 0) ∧ OFI 5 5 (f + 1) ν' X' := by
  obtain ⟨hW, hV, ⟨c1, c2, c3⟩, ⟨b5, bw, b7, bt, b45, b48⟩, tc, ts, tf, dp⟩ := h
  obtain ⟨x1, x2, x3⟩ := mk_x hP (show (16 : Nat) ≠ 2 by decide) (fun e => by have := gk_16 e; omega)
  have hw := wx_mkF hy (by omega) hW hV c3 hP
  have e : ∀ k, k ≠ 1 → k ≠ 2 → k ≠ 16 → X' k = X k := fun k z1 z2 z3 => funext fun j => x1 k j (fun e => by have := gk_16 e; omega) (fun y => z1 y.1) (fun y => z2 y.1)
  have e1 : ∀ j, j ≠ 2 → X' 1 j = X 1 j := fun j z1 => x1 1 j (fun e => by have := gk_16 e; omega) (fun y => z1 y.2) (fun y => absurd y.1 (by decide))
  have e16 : ∀ i, i ≠ f → X' 16 i = X 16 i := fun i z => x1 16 i (fun e => by have := gk_16 e; omega) (fun y => absurd y.1 (by decide)) (fun y => absurd y.1 (by decide))
  have n16 : X' 16 f = yF k a0 a1 a2 a3 a4 := x2 16 f rfl
  have eC : nC X' = nC X := by unfold nC; rw [e1 0 (by decide)]
  have eS : nS X' = nS X := by unfold nS; rw [e1 1 (by decide)]
  have eF : nF X' = nF X + 1 := x3
  refine ⟨⟨mk_a hP (fun e => by have := gk_16 e; omega) (by omega), mk_a hP (fun e => by have := gk_16 e; omega) (by omega)⟩, hw.1, hw.2, ⟨by omega, by omega, by omega⟩, ⟨fun s c => by rw [e 5 (by decide) (by decide) (by decide)]; exact b5 s c, fun c z => by rw [e1 _ (by omega)]; exact bw c (by omega), fun s c z z2 => by rw [e 7 (by decide) (by decide) (by decide)]; exact b7 s c (by omega) z2, by rw [e 0 (by decide) (by decide) (by decide)]; exact bt, fun c z => by rw [e 45 (by decide) (by decide) (by decide)]; exact b45 c z, fun j => by rw [e 48 (by decide) (by decide) (by decide)]; exact b48 j⟩, TLC_k (e 12 (by decide) (by decide) (by decide)) (e 13 (by decide) (by decide) (by decide)) (e 45 (by decide) (by decide) (by decide)) (e 46 (by decide) (by decide) (by decide)) (e 47 (by decide) (by decide) (by decide)) (e 48 (by decide) (by decide) (by decide)) tc, TLS_k (e 4 (by decide) (by decide) (by decide)) (e 49 (by decide) (by decide) (by decide)) ts, fun i hi => ?_, fun i hi => ?_⟩
  · refine FTV_of ?_
    rw [e 41 (by decide) (by decide) (by decide), e 42 (by decide) (by decide) (by decide), e 43 (by decide) (by decide) (by decide), e 44 (by decide) (by decide) (by decide)]
    by_cases q : i = f
    · subst q; rw [n16]; exact ht
    · rw [e16 i q]; exact FTV_to (tf i (by omega))
  · by_cases q : i = f
    · subst q; rw [n16]; exact hd
    · rw [e16 i q]; exact dp i (by omega)
theorem OFI_INV (h : OFI 5 5 12 ν X) : INV 0 ν X := by
  obtain ⟨hW, hV, hO, ⟨b5, bw, b7, bt, b45, b48⟩, tc, ts, tf, dp⟩ := h
  obtain ⟨c1, c2, c3⟩ := id hO
  have ht : ∀ s c, tak X s c = false := fun s c => by unfold tak; rw [b5]; decide
  refine ⟨⟨hW, hV, ⟨fun c hc => ?_, fun s hs => ?_, fun c k hc hk => ?_, fun c j k hc hj => ?_⟩, hO, ⟨tc, ts, tf⟩, fun s c hs hc => b7 s c (by omega) hc, by omega⟩, fun c k hc hk => ?_⟩
  · have h1 := wo_sea hW.1 c (by omega)
    have h2 : enr X c = 0 := by unfold enr; exact cnt_no _ (fun s hs => ht s c)
    omega
  · have h2 : load X s = 0 := by unfold load; exact crS_no _ (fun c hc => ht s c)
    omega
  · have := bw c hc; omega
  · have := bw c hc; omega
  · have := bw c hc; omega
end OFI1
/-- a formula's numbers before it is made -/
def FPre (X : XM) (f : Nat) : Prop := (0 ≤ X 41 0 f ∧ X 41 0 f ≤ 6) ∧ (f < 4 → X 41 0 f < 3) ∧ (X 41 0 f = 2 → 0 ≤ X 42 0 f ∧ X 42 0 f ≤ 8) ∧ (X 41 0 f < 2 → 0 ≤ X 42 0 f ∧ X 42 0 f < 5) ∧ (X 41 0 f = 0 → 0 ≤ X 43 0 f ∧ X 43 0 f ≤ 100) ∧ (3 ≤ X 41 0 f → 0 ≤ X 42 0 f ∧ X 42 0 f < f ∧ X 42 0 f < 6 ∧ 0 ≤ X 43 0 f ∧ X 43 0 f < f ∧ X 43 0 f < 6 ∧ 0 ≤ X 44 0 f ∧ X 44 0 f < f ∧ X 44 0 f < 6)
theorem dp_of {f : Nat} {v : Int} (h : DPy f v) : v ≤ 3 ∧ (f < 6 → v ≤ 2) ∧ (f < 5 → v ≤ 1) ∧ (f < 4 → v ≤ 0) := h
set_option maxRecDepth 100000 in
set_option maxHeartbeats 4000000 in
theorem c_L_adds {g : Gt} {α : AL} {ν : Nat → Nat → Bool} {X : XM} {h : AH} (hT : TR g α ν X h) {f : Nat} (hI : OFI 5 5 f ν X) (hf : f < 12) (hp : FPre X f)  : Al g M_L_adds 47 [.ref (α 0 0), .ref (α 40 0), .int (J (f : Int))] h 2 105 (some (.int (J (f : Int)))) ((fun α' ν' X' => α' 0 0 = α 0 0 ∧ α' 40 0 = α 40 0 ∧ OFI 5 5 (f + 1) ν' X')) := by
  refine ct_of_ev rfl rfl (ls := [some (.ref (α 0 0)), some (.ref (α 40 0)), some (.int (J (f : Int)))]) rfl (Nat.le_of_ble_eq_true rfl) ?_
  show Ev g M_L_adds 47 0 [some (.ref (α 0 0)), some (.ref (α 40 0)), some (.int (J (f : Int)))] [] h 2 105 (AQ g (some (.int (J (f : Int)))) ((fun α' ν' X' => α' 0 0 = α 0 0 ∧ α' 40 0 = α 40 0 ∧ OFI 5 5 (f + 1) ν' X')))
  obtain ⟨hW, hV, ⟨c1, c2, c3⟩, hB, tc, ts, tf, dp⟩ := id hI
  obtain ⟨p1, p2, p3, p4, p5, p6⟩ := hp
  refine ev_ald1 1 dL_adds_0 rfl ?_
  refine ev_getfieldN 4 14 0 fln_L_66 (tr40 hT) rfl dL_adds_1 rfl ?_
  refine ev_ild2 5 dL_adds_4 rfl ?_
  refine tv_iald 6 (tr41 hT) (f) (by omega) (by omega) (by omega) dL_adds_5 rfl ?_
  rcases (show X 41 0 f = 0 ∨ X 41 0 f = 1 ∨ X 41 0 f = 2 ∨ X 41 0 f = 3 ∨ X 41 0 f = 4 ∨ X 41 0 f = 5 ∨ X 41 0 f = 6 by omega) with c6 | c6 | c6 | c6 | c6 | c6 | c6
  · skip
    obtain ⟨a, ha⟩ : ∃ z : Nat, X 42 0 f = (z : Int) := ⟨_, (Int.toNat_of_nonneg (by omega)).symm⟩
    refine ev_tswIn 0 44 dL_adds_6 (by omega) rfl (by decide) (by first | exact TR.rng hT _ _ _ | exact R31_of _ | exact bi_R _ | assumption | (constructor <;> omega)) (by decide) ?_
    refine ev_ald0 45 dL_adds_44 rfl ?_
    refine ev_ald1 46 dL_adds_45 rfl ?_
    refine ev_getfieldN 49 14 1 fln_L_69 (tr40 hT) rfl dL_adds_46 rfl ?_
    refine ev_ild2 50 dL_adds_49 rfl ?_
    refine tv_iald 51 (tr42 hT) (f) (by omega) (by omega) (by omega) dL_adds_50 rfl ?_
    refine ev_ald1 52 dL_adds_51 rfl ?_
    refine ev_getfieldN 55 14 2 fln_L_77 (tr40 hT) rfl dL_adds_52 rfl ?_
    refine ev_ild2 56 dL_adds_55 rfl ?_
    refine tv_iald 57 (tr43 hT) (f) (by omega) (by omega) (by omega) dL_adds_56 rfl ?_
    rw [ha]
    refine tl_V (0) (2) 60 13 dL_adds_57 lkv_L_87 (tr0 hT) rfl (c_X11_markFormula_ok hT hW hV (c := a) (by omega) (by first | exact R31_of _ | (constructor <;> omega)) ⟨by omega, by omega⟩ (by omega) (n := f) c3) (by first | decide | omega) rfl rfl (Nat.le_of_ble_eq_true rfl) rfl (by omega) (by omega) (fun h α ν X hT hP57 => ?_)
    obtain ⟨⟨f0, f40⟩, hI⟩ := OFI_F hI hf (FY_y ⟨by omega, by omega⟩ ⟨by omega, by omega⟩ (fun z => by omega) (fun z => by omega) (fun z => by omega) (fun z => by omega) (fun z => by omega)) (by unfold DPy; omega) (FTV_y ⟨by omega, by omega⟩ (fun z => by omega) (fun z => by omega) (fun z => by omega) (fun z => by omega) (fun z => by omega) (fun z => by omega) (fun z => by omega)) hP57
    rw [← f0, ← f40]
    exact li_ret (by first | rfl | omega | exact bi_dt (by omega) | exact bi_df (by omega) | (rfl)) hT (by exact ⟨rfl, rfl, hI⟩) rfl dL_adds_60
  · skip
    obtain ⟨a, ha⟩ : ∃ z : Nat, X 42 0 f = (z : Int) := ⟨_, (Int.toNat_of_nonneg (by omega)).symm⟩
    refine ev_tswIn 1 61 dL_adds_6 (by omega) rfl (by decide) (by first | exact TR.rng hT _ _ _ | exact R31_of _ | exact bi_R _ | assumption | (constructor <;> omega)) (by decide) ?_
    refine ev_ald0 62 dL_adds_61 rfl ?_
    refine ev_ald1 63 dL_adds_62 rfl ?_
    refine ev_getfieldN 66 14 1 fln_L_69 (tr40 hT) rfl dL_adds_63 rfl ?_
    refine ev_ild2 67 dL_adds_66 rfl ?_
    refine tv_iald 68 (tr42 hT) (f) (by omega) (by omega) (by omega) dL_adds_67 rfl ?_
    rw [ha]
    refine tl_V (0) (3) 71 13 dL_adds_68 lkv_L_90 (tr0 hT) rfl (c_X11_togetherFormula_ok hT hW hV (c := a) (by omega) (by omega) (n := f) c3) (by first | decide | omega) rfl rfl (Nat.le_of_ble_eq_true rfl) rfl (by omega) (by omega) (fun h α ν X hT hP68 => ?_)
    obtain ⟨⟨f0, f40⟩, hI⟩ := OFI_F hI hf (FY_y ⟨by omega, by omega⟩ ⟨by omega, by omega⟩ (fun z => by omega) (fun z => by omega) (fun z => by omega) (fun z => by omega) (fun z => by omega)) (by unfold DPy; omega) (FTV_y ⟨by omega, by omega⟩ (fun z => by omega) (fun z => by omega) (fun z => by omega) (fun z => by omega) (fun z => by omega) (fun z => by omega) (fun z => by omega)) hP68
    rw [← f0, ← f40]
    exact li_ret (by first | rfl | omega | exact bi_dt (by omega) | exact bi_df (by omega) | (rfl)) hT (by exact ⟨rfl, rfl, hI⟩) rfl dL_adds_71
  · skip
    refine ev_tswIn 2 72 dL_adds_6 (by omega) rfl (by decide) (by first | exact TR.rng hT _ _ _ | exact R31_of _ | exact bi_R _ | assumption | (constructor <;> omega)) (by decide) ?_
    refine ev_ald0 73 dL_adds_72 rfl ?_
    refine ev_ald1 74 dL_adds_73 rfl ?_
    refine ev_getfieldN 77 14 1 fln_L_69 (tr40 hT) rfl dL_adds_74 rfl ?_
    refine ev_ild2 78 dL_adds_77 rfl ?_
    refine tv_iald 79 (tr42 hT) (f) (by omega) (by omega) (by omega) dL_adds_78 rfl ?_
    refine tl_V (0) (3) 82 13 dL_adds_79 lkv_L_93 (tr0 hT) rfl (c_X11_creditsFormula_ok hT hW hV (by constructor <;> omega) ⟨by omega, by omega⟩ (by omega) (n := f) c3) (by first | decide | omega) rfl rfl (Nat.le_of_ble_eq_true rfl) rfl (by omega) (by omega) (fun h α ν X hT hP79 => ?_)
    obtain ⟨⟨f0, f40⟩, hI⟩ := OFI_F hI hf (FY_y ⟨by omega, by omega⟩ ⟨by omega, by omega⟩ (fun z => by omega) (fun z => by omega) (fun z => by omega) (fun z => by omega) (fun z => by omega)) (by unfold DPy; omega) (FTV_y ⟨by omega, by omega⟩ (fun z => by omega) (fun z => by omega) (fun z => by omega) (fun z => by omega) (fun z => by omega) (fun z => by omega) (fun z => by omega)) hP79
    rw [← f0, ← f40]
    exact li_ret (by first | rfl | omega | exact bi_dt (by omega) | exact bi_df (by omega) | (rfl)) hT (by exact ⟨rfl, rfl, hI⟩) rfl dL_adds_82
  · skip
    obtain ⟨a, ha⟩ : ∃ z : Nat, X 42 0 f = (z : Int) := ⟨_, (Int.toNat_of_nonneg (by omega)).symm⟩
    have da := dp_of (dp a (by omega))
    have pa := wo_dep hW.1 a (by omega)
    have ta : X 16 ((a : Int)).toNat 0 = X 16 a 0 := by rw [Int.toNat_natCast]
    obtain ⟨b, hb⟩ : ∃ z : Nat, X 43 0 f = (z : Int) := ⟨_, (Int.toNat_of_nonneg (by omega)).symm⟩
    have db := dp_of (dp b (by omega))
    have pb := wo_dep hW.1 b (by omega)
    have tb : X 16 ((b : Int)).toNat 0 = X 16 b 0 := by rw [Int.toNat_natCast]
    obtain ⟨x1, x2, x3⟩ := mxI_ge (X 16 a 0) (X 16 b 0)
    refine ev_tswIn 3 83 dL_adds_6 (by omega) rfl (by decide) (by first | exact TR.rng hT _ _ _ | exact R31_of _ | exact bi_R _ | assumption | (constructor <;> omega)) (by decide) ?_
    refine ev_ald0 84 dL_adds_83 rfl ?_
    refine ev_ald1 85 dL_adds_84 rfl ?_
    refine ev_getfieldN 88 14 1 fln_L_69 (tr40 hT) rfl dL_adds_85 rfl ?_
    refine ev_ild2 89 dL_adds_88 rfl ?_
    refine tv_iald 90 (tr42 hT) (f) (by omega) (by omega) (by omega) dL_adds_89 rfl ?_
    refine ev_ald1 91 dL_adds_90 rfl ?_
    refine ev_getfieldN 94 14 2 fln_L_77 (tr40 hT) rfl dL_adds_91 rfl ?_
    refine ev_ild2 95 dL_adds_94 rfl ?_
    refine tv_iald 96 (tr43 hT) (f) (by omega) (by omega) (by omega) dL_adds_95 rfl ?_
    rw [ha, hb]
    refine tl_V (0) (0) 99 13 dL_adds_96 lkv_L_96 (tr0 hT) rfl (c_X11_allFormula_ok hT hW hV (f := a) (by omega) (f2 := b) (by omega) ⟨by omega, by omega⟩ (n := f) c3) (by first | decide | omega) rfl rfl (Nat.le_of_ble_eq_true rfl) rfl (by omega) (by omega) (fun h α ν X hT hP96 => ?_)
    obtain ⟨⟨f0, f40⟩, hI⟩ := OFI_F hI hf (FY_y ⟨by omega, by omega⟩ ⟨by omega, by omega⟩ (fun z => by omega) (fun z => by omega) (fun z => by omega) (fun z => by omega) (fun z => by omega)) (by unfold DPy; omega) (FTV_y ⟨by omega, by omega⟩ (fun z => by omega) (fun z => by omega) (fun z => by omega) (fun z => by omega) (fun z => by omega) (fun z => by omega) (fun z => by omega)) hP96
    rw [← f0, ← f40]
    exact li_ret (by first | rfl | omega | exact bi_dt (by omega) | exact bi_df (by omega) | (rfl)) hT (by exact ⟨rfl, rfl, hI⟩) rfl dL_adds_99
  · skip
    obtain ⟨a, ha⟩ : ∃ z : Nat, X 42 0 f = (z : Int) := ⟨_, (Int.toNat_of_nonneg (by omega)).symm⟩
    have da := dp_of (dp a (by omega))
    have pa := wo_dep hW.1 a (by omega)
    have ta : X 16 ((a : Int)).toNat 0 = X 16 a 0 := by rw [Int.toNat_natCast]
    obtain ⟨b, hb⟩ : ∃ z : Nat, X 43 0 f = (z : Int) := ⟨_, (Int.toNat_of_nonneg (by omega)).symm⟩
    have db := dp_of (dp b (by omega))
    have pb := wo_dep hW.1 b (by omega)
    have tb : X 16 ((b : Int)).toNat 0 = X 16 b 0 := by rw [Int.toNat_natCast]
    obtain ⟨x1, x2, x3⟩ := mxI_ge (X 16 a 0) (X 16 b 0)
    refine ev_tswIn 4 100 dL_adds_6 (by omega) rfl (by decide) (by first | exact TR.rng hT _ _ _ | exact R31_of _ | exact bi_R _ | assumption | (constructor <;> omega)) (by decide) ?_
    refine ev_ald0 101 dL_adds_100 rfl ?_
    refine ev_ald1 102 dL_adds_101 rfl ?_
    refine ev_getfieldN 105 14 1 fln_L_69 (tr40 hT) rfl dL_adds_102 rfl ?_
    refine ev_ild2 106 dL_adds_105 rfl ?_
    refine tv_iald 107 (tr42 hT) (f) (by omega) (by omega) (by omega) dL_adds_106 rfl ?_
    refine ev_ald1 108 dL_adds_107 rfl ?_
    refine ev_getfieldN 111 14 2 fln_L_77 (tr40 hT) rfl dL_adds_108 rfl ?_
    refine ev_ild2 112 dL_adds_111 rfl ?_
    refine tv_iald 113 (tr43 hT) (f) (by omega) (by omega) (by omega) dL_adds_112 rfl ?_
    rw [ha, hb]
    refine tl_V (0) (0) 116 13 dL_adds_113 lkv_L_99 (tr0 hT) rfl (c_X11_anyFormula_ok hT hW hV (f := a) (by omega) (f2 := b) (by omega) ⟨by omega, by omega⟩ (n := f) c3) (by first | decide | omega) rfl rfl (Nat.le_of_ble_eq_true rfl) rfl (by omega) (by omega) (fun h α ν X hT hP113 => ?_)
    obtain ⟨⟨f0, f40⟩, hI⟩ := OFI_F hI hf (FY_y ⟨by omega, by omega⟩ ⟨by omega, by omega⟩ (fun z => by omega) (fun z => by omega) (fun z => by omega) (fun z => by omega) (fun z => by omega)) (by unfold DPy; omega) (FTV_y ⟨by omega, by omega⟩ (fun z => by omega) (fun z => by omega) (fun z => by omega) (fun z => by omega) (fun z => by omega) (fun z => by omega) (fun z => by omega)) hP113
    rw [← f0, ← f40]
    exact li_ret (by first | rfl | omega | exact bi_dt (by omega) | exact bi_df (by omega) | (rfl)) hT (by exact ⟨rfl, rfl, hI⟩) rfl dL_adds_116
  · skip
    obtain ⟨a, ha⟩ : ∃ z : Nat, X 42 0 f = (z : Int) := ⟨_, (Int.toNat_of_nonneg (by omega)).symm⟩
    have da := dp_of (dp a (by omega))
    have pa := wo_dep hW.1 a (by omega)
    have ta : X 16 ((a : Int)).toNat 0 = X 16 a 0 := by rw [Int.toNat_natCast]
    obtain ⟨b, hb⟩ : ∃ z : Nat, X 43 0 f = (z : Int) := ⟨_, (Int.toNat_of_nonneg (by omega)).symm⟩
    have db := dp_of (dp b (by omega))
    have pb := wo_dep hW.1 b (by omega)
    have tb : X 16 ((b : Int)).toNat 0 = X 16 b 0 := by rw [Int.toNat_natCast]
    obtain ⟨c, hc⟩ : ∃ z : Nat, X 44 0 f = (z : Int) := ⟨_, (Int.toNat_of_nonneg (by omega)).symm⟩
    have dc := dp_of (dp c (by omega))
    have pc := wo_dep hW.1 c (by omega)
    have tc : X 16 ((c : Int)).toNat 0 = X 16 c 0 := by rw [Int.toNat_natCast]
    obtain ⟨x1, x2, x3⟩ := mxI_ge (X 16 a 0) (X 16 b 0)
    obtain ⟨x4, x5, x6⟩ := mxI_ge (mxI (X 16 a 0) (X 16 b 0)) (X 16 c 0)
    refine ev_tswIn 5 117 dL_adds_6 (by omega) rfl (by decide) (by first | exact TR.rng hT _ _ _ | exact R31_of _ | exact bi_R _ | assumption | (constructor <;> omega)) (by decide) ?_
    refine ev_ald0 118 dL_adds_117 rfl ?_
    refine ev_ald1 119 dL_adds_118 rfl ?_
    refine ev_getfieldN 122 14 1 fln_L_69 (tr40 hT) rfl dL_adds_119 rfl ?_
    refine ev_ild2 123 dL_adds_122 rfl ?_
    refine tv_iald 124 (tr42 hT) (f) (by omega) (by omega) (by omega) dL_adds_123 rfl ?_
    refine ev_ald1 125 dL_adds_124 rfl ?_
    refine ev_getfieldN 128 14 2 fln_L_77 (tr40 hT) rfl dL_adds_125 rfl ?_
    refine ev_ild2 129 dL_adds_128 rfl ?_
    refine tv_iald 130 (tr43 hT) (f) (by omega) (by omega) (by omega) dL_adds_129 rfl ?_
    refine ev_ald1 131 dL_adds_130 rfl ?_
    refine ev_getfieldN 134 14 3 fln_L_80 (tr40 hT) rfl dL_adds_131 rfl ?_
    refine ev_ild2 135 dL_adds_134 rfl ?_
    refine tv_iald 136 (tr44 hT) (f) (by omega) (by omega) (by omega) dL_adds_135 rfl ?_
    rw [ha, hb, hc]
    refine tl_V (0) (0) 139 13 dL_adds_136 lkv_L_102 (tr0 hT) rfl (c_X11_twoFormula_ok hT hW hV (f := a) (by omega) (f2 := b) (by omega) (f3 := c) (by omega) ⟨by omega, by omega⟩ (n := f) c3) (by first | decide | omega) rfl rfl (Nat.le_of_ble_eq_true rfl) rfl (by omega) (by omega) (fun h α ν X hT hP136 => ?_)
    obtain ⟨⟨f0, f40⟩, hI⟩ := OFI_F hI hf (FY_y ⟨by omega, by omega⟩ ⟨by omega, by omega⟩ (fun z => by omega) (fun z => by omega) (fun z => by omega) (fun z => by omega) (fun z => by omega)) (by unfold DPy; omega) (FTV_y ⟨by omega, by omega⟩ (fun z => by omega) (fun z => by omega) (fun z => by omega) (fun z => by omega) (fun z => by omega) (fun z => by omega) (fun z => by omega)) hP136
    rw [← f0, ← f40]
    exact li_ret (by first | rfl | omega | exact bi_dt (by omega) | exact bi_df (by omega) | (rfl)) hT (by exact ⟨rfl, rfl, hI⟩) rfl dL_adds_139
  · skip
    obtain ⟨a, ha⟩ : ∃ z : Nat, X 42 0 f = (z : Int) := ⟨_, (Int.toNat_of_nonneg (by omega)).symm⟩
    have da := dp_of (dp a (by omega))
    have pa := wo_dep hW.1 a (by omega)
    have ta : X 16 ((a : Int)).toNat 0 = X 16 a 0 := by rw [Int.toNat_natCast]
    refine ev_tswOut 140 dL_adds_6 (by first | exact TR.rng hT _ _ _ | exact R31_of _ | exact bi_R _ | assumption | (constructor <;> omega)) (by omega) (by decide) ?_
    refine ev_ald0 141 dL_adds_140 rfl ?_
    refine ev_ald1 142 dL_adds_141 rfl ?_
    refine ev_getfieldN 145 14 1 fln_L_69 (tr40 hT) rfl dL_adds_142 rfl ?_
    refine ev_ild2 146 dL_adds_145 rfl ?_
    refine tv_iald 147 (tr42 hT) (f) (by omega) (by omega) (by omega) dL_adds_146 rfl ?_
    rw [ha]
    refine tl_V (0) (3) 150 13 dL_adds_147 lkv_L_106 (tr0 hT) rfl (c_X11_noneFormula_ok hT hW hV (f := a) (by omega) ⟨by omega, by omega⟩ (n := f) c3) (by first | decide | omega) rfl rfl (Nat.le_of_ble_eq_true rfl) rfl (by omega) (by omega) (fun h α ν X hT hP147 => ?_)
    obtain ⟨⟨f0, f40⟩, hI⟩ := OFI_F hI hf (FY_y ⟨by omega, by omega⟩ ⟨by omega, by omega⟩ (fun z => by omega) (fun z => by omega) (fun z => by omega) (fun z => by omega) (fun z => by omega)) (by unfold DPy; omega) (FTV_y ⟨by omega, by omega⟩ (fun z => by omega) (fun z => by omega) (fun z => by omega) (fun z => by omega) (fun z => by omega) (fun z => by omega) (fun z => by omega)) hP147
    rw [← f0, ← f40]
    exact li_ret (by first | rfl | omega | exact bi_dt (by omega) | exact bi_df (by omega) | (rfl)) hT (by exact ⟨rfl, rfl, hI⟩) rfl dL_adds_150
