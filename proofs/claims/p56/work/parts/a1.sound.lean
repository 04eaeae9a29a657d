/-! THE OFFICE IS SOUND: what every call leaves -/
def SD (X : XM) : Prop := (∀ c : Nat, (c : Int) < nC X → enr X c ≤ X 12 c 2) ∧ (∀ s : Nat, (s : Int) < nS X → load X s ≤ 18) ∧ (∀ c k : Nat, (c : Int) < nC X → (k : Int) < X 1 (4 + c) 2 → tak X (X 2 (4 + c) (k + 1)).toNat c = false) ∧ ∀ c j k : Nat, (c : Int) < nC X → (j : Int) < X 1 (4 + c) 2 → (k : Int) < X 1 (4 + c) 2 → X 2 (4 + c) (j + 1) = X 2 (4 + c) (k + 1) → j = k
/-- nobody who waits can take a seat -/
def NWT (X : XM) : Prop := ∀ c k : Nat, (c : Int) < nC X → (k : Int) < X 1 (4 + c) 2 → canT X (X 2 (4 + c) (k + 1)).toNat c = false
theorem snd_of {X : XM} (h : SD X) (hN : NWT X) : sndP X := by
  refine ⟨h.1, fun s hs => ⟨h.2.1 s hs, fun c hc hp => ?_⟩⟩
  obtain ⟨k, hk, e⟩ := plc_at (X 1 (4 + c) 2).toNat hp
  have h1 := h.2.2.1 c k hc (by omega)
  have h2 := hN c k hc (by omega)
  rw [e, Int.toNat_natCast] at h1 h2
  exact ⟨h1, h2⟩
theorem free_enr {X : XM} (hO : WO X) {c : Nat} (hc : (c : Int) < nC X) {m : Int} (h : 0 < free X c m) : enr X c + 1 ≤ X 12 c 2 := by
  have hk := kept_0 hO hc m 4 (by omega)
  unfold free at h
  split at h
  · omega
  · unfold free0 at h
    split at h <;> omega
theorem tak_k {X X' : XM} (h5 : X' 5 = X 5) (s : Nat) : tak X' s = tak X s := funext fun c => by unfold tak; rw [h5]
theorem enr_k {X X' : XM} (h5 : X' 5 = X 5) (hn : nS X' = nS X) (c : Nat) : enr X' c = enr X c := by
  unfold enr
  rw [hn]
  exact cnt_cg _ (fun j _ => by rw [tak_k h5])
theorem crS_o {X X' : XM} (h : ∀ c, X' 12 c 1 = X 12 c 1) (p : Nat → Bool) : ∀ n, crS X' p n = crS X p n
  | 0 => rfl
  | n + 1 => by rw [crS_s, crS_s, crS_o h p n, h]
theorem load_k {X X' : XM} (h5 : X' 5 = X 5) (h12 : ∀ c, X' 12 c 1 = X 12 c 1) (hn : nC X' = nC X) (s : Nat) : load X' s = load X s := by
  unfold load
  rw [hn, crS_o h12, tak_k h5]
/-- the kinds that it speaks of -/
theorem SD_cg {X X' : XM} (h : SD X) (h1 : X' 1 = X 1) (h2 : X' 2 = X 2) (h5 : X' 5 = X 5) (h12 : ∀ c, X' 12 c 1 = X 12 c 1 ∧ X' 12 c 2 = X 12 c 2) : SD X' := by
  have eC : nC X' = nC X := by unfold nC; rw [h1]
  have eS : nS X' = nS X := by unfold nS; rw [h1]
  refine ⟨fun c hc => ?_, fun s hs => ?_, fun c k hc hk => ?_, fun c j k hc hj hk e => ?_⟩
  · rw [enr_k h5 eS, (h12 c).2]; exact h.1 c (by omega)
  · rw [load_k h5 (fun c => (h12 c).1) eC]; exact h.2.1 s (by omega)
  · rw [h1] at hk; rw [h2, tak_k h5]; exact h.2.2.1 c k (by omega) hk
  · rw [h1] at hj hk; rw [h2] at e; exact h.2.2.2 c j k (by omega) hj hk e
theorem crS_le {X : XM} (hO : WO X) {p q : Nat → Bool} (h : ∀ c, p c = true → q c = true) : ∀ n : Nat, (n : Int) ≤ nC X → crS X p n ≤ crS X q n
  | 0, _ => Int.le_refl _
  | n + 1, hn => by
    have ih := crS_le hO h n (by omega)
    have hc := wo_crd hO n (by omega)
    rw [crS_s, crS_s]
    cases e : p n with
    | false => rw [if_neg (by decide)]; split <;> omega
    | true => rw [if_pos rfl, if_pos (h n e)]; omega
/-- who is enrolled was it before -/
theorem SD_dn {X X' : XM} (hO : WO X) (h : SD X) (h1 : X' 1 = X 1) (h2 : X' 2 = X 2) (h12 : X' 12 = X 12) (hd : ∀ s c, tak X' s c = true → tak X s c = true) : SD X' := by
  have eC : nC X' = nC X := by unfold nC; rw [h1]
  have eS : nS X' = nS X := by unfold nS; rw [h1]
  have q1 := wo_nC hO
  refine ⟨fun c hc => ?_, fun s hs => ?_, fun c k hc hk => ?_, fun c j k hc hj hk e => ?_⟩
  · have q := h.1 c (by omega)
    have l : enr X' c ≤ enr X c := by unfold enr; rw [eS]; exact cnt_lem (fun j hj => hd j c hj) _
    rw [h12]; omega
  · have q := h.2.1 s (by omega)
    have l : load X' s ≤ load X s := by
      unfold load
      rw [eC, crS_eq h12]
      exact crS_le hO (fun c hc => hd s c hc) _ (by omega)
    omega
  · rw [h1] at hk
    have q := h.2.2.1 c k (by omega) hk
    rw [h2]
    cases e : tak X' (X 2 (4 + c) (k + 1)).toNat c with
    | false => rfl
    | true => rw [hd _ _ e] at q; cases q
  · rw [h1] at hj hk; rw [h2] at e; exact h.2.2.2 c j k (by omega) hj hk e
/-- all lists are empty -/
theorem SD_em {X X' : XM} (h : SD X) (h1 : ∀ i, i < 4 → X' 1 i 2 = X 1 i 2) (h5 : X' 5 = X 5) (h12 : X' 12 = X 12) (he : ∀ c : Nat, (c : Int) < nC X → X' 1 (4 + c) 2 = 0) : SD X' := by
  have eC : nC X' = nC X := h1 0 (by omega)
  have eS : nS X' = nS X := h1 1 (by omega)
  refine ⟨fun c hc => ?_, fun s hs => ?_, fun c k hc hk => ?_, fun c j k hc hj hk e => ?_⟩
  · rw [enr_k h5 eS, h12]; exact h.1 c (by omega)
  · rw [load_k h5 (fun c => by rw [h12]) eC]; exact h.2.1 s (by omega)
  · rw [he c (by omega)] at hk; omega
  · rw [he c (by omega)] at hk; omega
/-! one more is enrolled -/
theorem tak_t1 (X : XM) (s c t j : Nat) : tak (xs X 5 s c 1) t j = (tak X t j || decide (t = s ∧ j = c)) := by
  unfold tak
  rw [xs_all]
  by_cases e : t = s ∧ j = c
  · obtain ⟨rfl, rfl⟩ := e
    simp
  · rw [if_neg (fun z => e ⟨z.2.1, z.2.2⟩), decide_eq_false e, Bool.or_false]
theorem enr_t1 {X : XM} {s c : Nat} (hs : (s : Int) < nS X) (hf : tak X s c = false) (c2 : Nat) : enr (xs X 5 s c 1) c2 = enr X c2 + (if c2 = c then 1 else 0) := by
  have eS : nS (xs X 5 s c 1) = nS X := by unfold nS; rw [xs_nk (by decide)]
  unfold enr
  rw [eS]
  by_cases e : c2 = c
  · subst e
    rw [if_pos rfl, cnt_set (p := fun t => tak X t c2) (q := fun t => tak (xs X 5 s c2 1) t c2) (c := s) hf (by rw [tak_t1]; simp) (fun j hj => by rw [tak_t1, decide_eq_false (fun z => hj z.1), Bool.or_false]), if_pos (by omega)]
  · rw [if_neg e, Int.add_zero]
    exact cnt_cg _ (fun j _ => by rw [tak_t1, decide_eq_false (fun z => e z.2), Bool.or_false])
theorem load_t1 {X : XM} {s c : Nat} (hc : (c : Int) < nC X) (hf : tak X s c = false) (t : Nat) : load (xs X 5 s c 1) t = load X t + (if t = s then X 12 c 1 else 0) := by
  have eC : nC (xs X 5 s c 1) = nC X := by unfold nC; rw [xs_nk (by decide)]
  unfold load
  rw [eC, crS_eq (xs_nk (by decide))]
  by_cases e : t = s
  · subst e
    rw [if_pos rfl, crS_add (p := tak X t) (q := tak (xs X 5 t c 1) t) (c := c) hf (by rw [tak_t1]; simp) (fun j hj => by rw [tak_t1, decide_eq_false (fun z => hj z.2), Bool.or_false]), if_pos (by omega)]
  · rw [if_neg e, Int.add_zero]
    exact crS_cg _ (fun j _ => by rw [tak_t1, decide_eq_false (fun z => e z.1), Bool.or_false])
theorem SD_t1 {X : XM} (h : SD X) {s c : Nat} (hs : (s : Int) < nS X) (hc : (c : Int) < nC X) (hf : tak X s c = false) (he : enr X c + 1 ≤ X 12 c 2) (hl : load X s + X 12 c 1 ≤ 18) (hw : ∀ k : Nat, (k : Int) < X 1 (4 + c) 2 → (X 2 (4 + c) (k + 1)).toNat ≠ s) : SD (xs X 5 s c 1) := by
  have m1 : xs X 5 s c 1 1 = X 1 := xs_nk (by decide)
  have m2 : xs X 5 s c 1 2 = X 2 := xs_nk (by decide)
  have m12 : xs X 5 s c 1 12 = X 12 := xs_nk (by decide)
  have eC : nC (xs X 5 s c 1) = nC X := by unfold nC; rw [m1]
  have eS : nS (xs X 5 s c 1) = nS X := by unfold nS; rw [m1]
  refine ⟨fun c2 hc2 => ?_, fun t ht => ?_, fun c2 k hc2 hk => ?_, fun c2 j k hc2 hj hk e => ?_⟩
  · have q := h.1 c2 (by omega)
    rw [enr_t1 hs hf, m12]
    split
    · rename_i e; subst e; omega
    · omega
  · have q := h.2.1 t (by omega)
    rw [load_t1 hc hf]
    split
    · rename_i e; subst e; omega
    · omega
  · rw [m1] at hk
    rw [m2, tak_t1, h.2.2.1 c2 k (by omega) hk, Bool.false_or]
    refine decide_eq_false (fun z => ?_)
    obtain ⟨z1, z2⟩ := z
    subst z2
    exact hw k hk z1
  · rw [m1] at hj hk; rw [m2] at e; exact h.2.2.2 c2 j k (by omega) hj hk e
/-! one leaves a list -/
theorem lv_e {X : XM} {c k c2 j : Nat} (hk : (k : Int) < X 1 (4 + c) 2) (hj : (j : Int) < lv X c k 1 (4 + c2) 2) : ∃ j2 : Nat, (j2 : Int) < X 1 (4 + c2) 2 ∧ lv X c k 2 (4 + c2) (j + 1) = X 2 (4 + c2) (j2 + 1) ∧ ¬ (c2 = c ∧ j2 = k) ∧ j2 = (if c2 = c ∧ k ≤ j then j + 1 else j) := by
  rw [lv_n] at hj
  by_cases e : c2 = c
  · subst e
    rw [if_pos rfl] at hj
    rw [lv_2, if_neg (by omega)]
    by_cases q : k ≤ j
    · exact ⟨j + 1, by omega, by rw [if_pos (by omega)], by omega, by rw [if_pos ⟨rfl, q⟩]⟩
    · exact ⟨j, by omega, by rw [if_neg (by omega)], by omega, by rw [if_neg (fun z => q z.2)]⟩
  · rw [if_neg e] at hj
    exact ⟨j, hj, by rw [lv_ne (by omega)], fun z => e z.1, by rw [if_neg (fun z => e z.1)]⟩
theorem SD_lv {X : XM} {c k : Nat} (hk : (k : Int) < X 1 (4 + c) 2) (h1 : ∀ c : Nat, (c : Int) < nC X → enr X c ≤ X 12 c 2) (h2 : ∀ s : Nat, (s : Int) < nS X → load X s ≤ 18) (h3 : ∀ c2 k2 : Nat, (c2 : Int) < nC X → (k2 : Int) < X 1 (4 + c2) 2 → ¬ (c2 = c ∧ k2 = k) → tak X (X 2 (4 + c2) (k2 + 1)).toNat c2 = false) (h4 : ∀ c j k : Nat, (c : Int) < nC X → (j : Int) < X 1 (4 + c) 2 → (k : Int) < X 1 (4 + c) 2 → X 2 (4 + c) (j + 1) = X 2 (4 + c) (k + 1) → j = k) : SD (lv X c k) := by
  have m5 : lv X c k 5 = X 5 := lv_k (by decide) (by decide)
  have m12 : lv X c k 12 = X 12 := lv_k (by decide) (by decide)
  have eC : nC (lv X c k) = nC X := by unfold nC; rw [lv_ne (by omega)]
  have eS : nS (lv X c k) = nS X := by unfold nS; rw [lv_ne (by omega)]
  refine ⟨fun c2 hc2 => ?_, fun t ht => ?_, fun c2 j hc2 hj => ?_, fun c2 j1 j2 hc2 hj1 hj2 e => ?_⟩
  · rw [enr_k m5 eS, m12]; exact h1 c2 (by omega)
  · rw [load_k m5 (fun c => by rw [m12]) eC]; exact h2 t (by omega)
  · obtain ⟨j2, a1, a2, a3, -⟩ := lv_e hk hj
    rw [a2, tak_k m5]
    exact h3 c2 j2 (by omega) a1 a3
  · obtain ⟨i1, a1, a2, -, a4⟩ := lv_e hk hj1
    obtain ⟨i2, b1, b2, -, b4⟩ := lv_e hk hj2
    rw [a2, b2] at e
    have q := h4 c2 i1 i2 (by omega) a1 b1 e
    split at a4 <;> split at b4 <;> omega
theorem SD_leave {X : XM} (h : SD X) {c k : Nat} (hk : (k : Int) < X 1 (4 + c) 2) : SD (lv X c k) := SD_lv hk h.1 h.2.1 (fun c2 k2 a b _ => h.2.2.1 c2 k2 a b) h.2.2.2
theorem can_at {X : XM} {s c : Nat} (h : canT X s c = true) : 0 < free X c (X 4 s 0) ∧ load X s + X 12 c 1 ≤ 18 ∧ mayT X s c = true := by
  unfold canT fitsL at h
  rw [Bool.and_eq_true, Bool.and_eq_true, decide_eq_true_eq, decide_eq_true_eq] at h
  exact ⟨h.1.1, h.1.2, h.2⟩
theorem SD_seat {X : XM} (hO : WO X) (h : SD X) {c k : Nat} (hc : (c : Int) < nC X) (hk : (k : Int) < X 1 (4 + c) 2) (hcan : canT X (X 2 (4 + c) (k + 1)).toNat c = true) : SD (seat X c k) := by
  obtain ⟨f1, f2, -⟩ := can_at hcan
  have hw := wo_wA hO c k hc hk
  have hf := h.2.2.1 c k hc hk
  have he := free_enr hO hc f1
  obtain ⟨s, hs⟩ : ∃ s, s = (X 2 (4 + c) (k + 1)).toNat := ⟨_, rfl⟩
  rw [← hs] at f1 f2 hf
  have hs0 : (s : Int) < nS X := by omega
  have m1 : xs X 5 s c 1 1 = X 1 := xs_nk (by decide)
  have m2 : xs X 5 s c 1 2 = X 2 := xs_nk (by decide)
  have m12 : xs X 5 s c 1 12 = X 12 := xs_nk (by decide)
  have eC : nC (xs X 5 s c 1) = nC X := by unfold nC; rw [m1]
  have eS : nS (xs X 5 s c 1) = nS X := by unfold nS; rw [m1]
  show SD (lv (xs X 5 (X 2 (4 + c) (k + 1)).toNat c 1) c k)
  rw [← hs]
  refine SD_lv (by rw [m1]; exact hk) (fun c2 hc2 => ?_) (fun t ht => ?_) (fun c2 k2 hc2 hk2 hn => ?_) (fun c2 j1 j2 hc2 hj1 hj2 e => ?_)
  · have q := h.1 c2 (by omega)
    rw [enr_t1 hs0 hf, m12]
    split
    · rename_i e; subst e; omega
    · omega
  · have q := h.2.1 t (by omega)
    rw [load_t1 hc hf]
    split
    · rename_i e; subst e; omega
    · omega
  · rw [m1] at hk2
    rw [m2, tak_t1, h.2.2.1 c2 k2 (by omega) hk2, Bool.false_or]
    refine decide_eq_false (fun z => ?_)
    obtain ⟨z1, z2⟩ := z
    subst z2
    have hw2 := wo_wA hO c2 k2 hc hk2
    exact hn ⟨rfl, h.2.2.2 c2 k2 k hc hk2 hk (by omega)⟩
  · rw [m1] at hj1 hj2; rw [m2] at e; exact h.2.2.2 c2 j1 j2 (by omega) hj1 hj2 e
/-! seats are given out until nobody can take one -/
theorem fk_no {X : XM} {c : Nat} : ∀ n, fk X c n = none → ∀ k, k < n → canT X (X 2 (4 + c) (k + 1)).toNat c = false
  | 0, _, k, hk => absurd hk (Nat.not_lt_zero _)
  | n + 1, h, k, hk => by
    unfold fk at h
    cases e : fk X c n with
    | some k2 => rw [e] at h; cases h
    | none =>
      rw [e] at h
      by_cases q : k = n
      · subst q
        cases e2 : canT X (X 2 (4 + c) (k + 1)).toNat c with
        | false => rfl
        | true => simp [e2] at h
      · exact fk_no n e k (by omega)
theorem fc_no {X : XM} : ∀ n, fc X n = none → ∀ c, c < n → fk X c (X 1 (4 + c) 2).toNat = none
  | 0, _, c, hc => absurd hc (Nat.not_lt_zero _)
  | n + 1, h, c, hc => by
    unfold fc at h
    cases e : fc X n with
    | some p => rw [e] at h; cases h
    | none =>
      rw [e] at h
      by_cases q : c = n
      · subst q; exact Option.map_eq_none_iff.mp h
      · exact fc_no n e c (by omega)
theorem NWT_fst {X : XM} (h : fstW X = none) : NWT X := fun c k hc hk => fk_no _ (fc_no _ h c (by omega)) k (by omega)
theorem fst_gvN : ∀ (n : Nat) {X : XM}, WO X → tw X < n → fstW (gvN n X) = none
  | 0, X, hO, ht => by have := tw_0 hO; omega
  | n + 1, X, hO, ht => by
    rw [gvN_c]
    cases e : fstW X with
    | none => exact e
    | some p =>
      have hp := fst_lt hO e
      exact fst_gvN n (wo_seat hO hp.1 hp.2.1) (by rw [tw_seat _ _ hp.1]; omega)
theorem NWT_gv {X : XM} (hO : WO X) : NWT (gv X) := by
  unfold gv
  split
  · rename_i h
    intro c k hc hk
    have := wo_w6 hO c hc h
    omega
  · exact NWT_fst (fst_gvN 121 hO (by have := tw_0 hO; omega))
theorem SD_gvN : ∀ (n : Nat) {X : XM}, WO X → SD X → SD (gvN n X)
  | 0, X, _, h => h
  | n + 1, X, hO, h => by
    rw [gvN_c]
    cases e : fstW X with
    | none => exact h
    | some p =>
      have hp := fst_lt hO e
      exact SD_gvN n (wo_seat hO hp.1 hp.2.1) (SD_seat hO h hp.1 hp.2.1 hp.2.2)
theorem SD_gv {X : XM} (hO : WO X) (h : SD X) : SD (gv X) := by
  unfold gv
  split
  · exact h
  · exact SD_gvN _ hO h
/-- on the days behind 5 nobody waits -/
theorem NWT_6 {X : XM} (hO : WO X) (h : 5 < X 0 0 5) : NWT X := fun c k hc hk => by
  have := wo_w6 hO c hc h
  omega
/-! the ends of courses -/
theorem tak_en1_le (X : XM) (s c s2 c2 : Nat) : tak (en1 X s c) s2 c2 = true → tak X s2 c2 = true := by
  unfold tak
  rw [en1_5]
  split
  · intro h; simp at h
  · exact id
theorem tak_eN : ∀ (n : Nat) {X : XM} {s : Nat} {c : Int} (s2 c2 : Nat), tak (eN n X s c) s2 c2 = true → tak X s2 c2 = true
  | 0, X, s, c, s2, c2, h => h
  | n + 1, X, s, c, s2, c2, h => by
    rw [eN] at h
    split at h
    · exact h
    · exact tak_en1_le X s c.toNat s2 c2 (tak_eN n s2 c2 h)
theorem SD_eO {X : XM} (hO : WO X) (h : SD X) (s : Nat) (c : Int) : SD (eO X s c) :=
  SD_dn hO h (eO_k (by decide) (by decide) (by decide) (by decide)) (eO_k (by decide) (by decide) (by decide) (by decide)) (eO_k (by decide) (by decide) (by decide) (by decide)) (fun s2 c2 q => tak_eN 20 s2 c2 q)
/-! days pass -/
theorem SD_dyB {X : XM} (hO : WO X) (h : SD X) : SD (dyB X) := by
  have q1 := wo_nC hO
  unfold dyB
  split
  · refine SD_em h (fun i hi => ?_) ?_ ?_ (fun c hc => ?_)
    · rw [xs_nk (by decide), emA_l X hi]
    · rw [xs_nk (by decide), emA_k X (by decide) (by decide)]
    · rw [xs_nk (by decide), emA_k X (by decide) (by decide)]
    · rw [xs_nk (by decide), emA_w, if_pos (by omega)]
  · exact SD_cg h (xs_nk (by decide)) (xs_nk (by decide)) (xs_nk (by decide)) (fun c => by rw [xs_nk (by decide)]; exact ⟨rfl, rfl⟩)
theorem SD_psN {X : XM} (hO : WO X) (h : SD X) (hN : NWT X) : ∀ n : Nat, X 0 0 5 + n ≤ 30 → SD (psN X n) ∧ NWT (psN X n)
  | 0, _ => ⟨h, hN⟩
  | n + 1, hn => by
    have ih := SD_psN hO h hN n (by omega)
    have ho := wo_psN hO n (by omega)
    have hd := psN_day X n
    have ho2 := wo_dyB ho (by omega)
    exact ⟨SD_gv ho2 (SD_dyB ho ih.1), NWT_gv ho2⟩
/-! the end of a term -/
theorem ctA_z (X : XM) : ∀ (n s : Nat), s < n → ∀ c, c < 20 → ctA X n 5 s c = 0
  | 0, s, h, c, _ => absurd h (Nat.not_lt_zero _)
  | n + 1, s, h, c, hc => by
    show ctS (ctA X n) n 20 5 s c = 0
    by_cases e : s = n
    · subst e; rw [ctS_5, if_pos hc]
    · rw [ctS_o _ e]; exact ctA_z X n s (by omega) c hc
