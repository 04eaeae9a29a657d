/-! WHAT THE CALLS LEAVE -/
theorem aq_9 (X : XM) (s c : Nat) (m : Int) (s2 c2 : Nat) : aa X s c m 9 s2 c2 = if s2 = s ∧ c2 = c ∧ X 9 s c < 3 then X 9 s c + 1 else X 9 s2 c2 := by
  by_cases h : X 9 s c < 3
  · rw [aa_9 h]
    by_cases e : s2 = s ∧ c2 = c
    · rw [if_pos e, if_pos ⟨e.1, e.2, h⟩]
    · rw [if_neg e, if_neg (fun z => e ⟨z.1, z.2.1⟩)]
  · unfold aa
    rw [if_neg h, if_neg (fun z => h z.2.2)]
theorem ctC_9 (X : XM) (s c s2 c2 : Nat) : ctC X s c 9 s2 c2 = if s2 = s ∧ c2 = c ∧ tak X s c = true ∧ X 9 s c < 3 then X 9 s c + 1 else X 9 s2 c2 := by
  unfold ctC
  rw [xs_nk (by decide), xs_nk (by decide)]
  by_cases h : tak X s c = true
  · rw [if_pos h, aq_9]
    by_cases e : s2 = s ∧ c2 = c ∧ X 9 s c < 3
    · rw [if_pos e, if_pos ⟨e.1, e.2.1, h, e.2.2⟩]
    · rw [if_neg e, if_neg (fun z => e ⟨z.1, z.2.1, z.2.2.2⟩)]
  · rw [if_neg h, if_neg (fun z => h z.2.2.1)]
theorem ctC_7 (X : XM) (s c s2 c2 : Nat) : ctC X s c 7 s2 c2 = if s2 = s ∧ c2 = c then -1 else X 7 s2 c2 := by
  have e7 : (if tak X s c = true then aa X s c (etm X s c) else X) 7 = X 7 := by
    split
    · exact aa_k (by decide) (by decide) (by decide)
    · rfl
  unfold ctC
  rw [xs_all, xs_nk (by decide), e7]
  by_cases e : s2 = s ∧ c2 = c
  · rw [if_pos ⟨rfl, e.1, e.2⟩, if_pos e]
  · rw [if_neg (fun z => e ⟨z.2.1, z.2.2⟩), if_neg e]
theorem ctS_tak (X : XM) (s n : Nat) : tak (ctS X s n) s n = tak X s n := by
  unfold tak
  rw [ctS_5, if_neg (Nat.lt_irrefl n)]
theorem ctS_9 (X : XM) (s : Nat) : ∀ (n s2 c2 : Nat), ctS X s n 9 s2 c2 = if s2 = s ∧ c2 < n ∧ tak X s c2 = true ∧ X 9 s c2 < 3 then X 9 s c2 + 1 else X 9 s2 c2
  | 0, s2, c2 => by rw [if_neg (fun z => Nat.not_lt_zero _ z.2.1)]; rfl
  | n + 1, s2, c2 => by
    have ih := ctS_9 X s n
    have i1 : ctS X s n 9 s n = X 9 s n := by rw [ih, if_neg (fun z => Nat.lt_irrefl n z.2.1)]
    show ctC (ctS X s n) s n 9 s2 c2 = _
    rw [ctC_9, ctS_tak, i1, ih]
    by_cases e : s2 = s ∧ c2 = n
    · obtain ⟨rfl, rfl⟩ := e
      by_cases q : tak X s2 c2 = true ∧ X 9 s2 c2 < 3
      · rw [if_pos ⟨rfl, rfl, q⟩, if_pos ⟨rfl, Nat.lt_succ_self _, q⟩]
      · rw [if_neg (fun z => q z.2.2), if_neg (fun z => q z.2.2), if_neg (fun z => q z.2.2)]
    · rw [if_neg (fun z => e ⟨z.1, z.2.1⟩)]
      by_cases q : s2 = s ∧ c2 < n ∧ tak X s c2 = true ∧ X 9 s c2 < 3
      · rw [if_pos q, if_pos ⟨q.1, Nat.lt_succ_of_lt q.2.1, q.2.2⟩]
      · rw [if_neg q, if_neg (fun z => q ⟨z.1, by have := z.2.1; have : c2 ≠ n := fun y => e ⟨z.1, y⟩; omega, z.2.2⟩)]
theorem ctS_7 (X : XM) (s : Nat) : ∀ (n s2 c2 : Nat), ctS X s n 7 s2 c2 = if s2 = s ∧ c2 < n then -1 else X 7 s2 c2
  | 0, s2, c2 => by rw [if_neg (fun z => Nat.not_lt_zero _ z.2)]; rfl
  | n + 1, s2, c2 => by
    show ctC (ctS X s n) s n 7 s2 c2 = _
    rw [ctC_7, ctS_7 X s n]
    by_cases e : s2 = s ∧ c2 = n
    · rw [if_pos e, if_pos ⟨e.1, by omega⟩]
    · rw [if_neg e]
      by_cases q : s2 = s ∧ c2 < n
      · rw [if_pos q, if_pos ⟨q.1, by omega⟩]
      · rw [if_neg q, if_neg (fun z => q ⟨z.1, by have := z.2; have : c2 ≠ n := fun y => e ⟨z.1, y⟩; omega⟩)]
theorem ctA_9 (X : XM) : ∀ (n s c : Nat), c < 20 → ctA X n 9 s c = if s < n ∧ tak X s c = true ∧ X 9 s c < 3 then X 9 s c + 1 else X 9 s c
  | 0, s, c, _ => by rw [if_neg (fun z => Nat.not_lt_zero _ z.1)]; rfl
  | n + 1, s, c, hc => by
    have ih := ctA_9 X n
    show ctS (ctA X n) n 20 9 s c = _
    rw [ctS_9, ctA_t, ih s c hc]
    have i1 : ctA X n 9 n c = X 9 n c := by rw [ih n c hc, if_neg (fun z => Nat.lt_irrefl n z.1)]
    rw [i1]
    by_cases e : s = n
    · subst e
      by_cases q : tak X s c = true ∧ X 9 s c < 3
      · rw [if_pos ⟨rfl, hc, q⟩, if_pos ⟨Nat.lt_succ_self _, q⟩]
      · rw [if_neg (fun z => q z.2.2), if_neg (fun z => q z.2), if_neg (fun z => q z.2)]
    · rw [if_neg (fun z => e z.1)]
      by_cases q : s < n ∧ tak X s c = true ∧ X 9 s c < 3
      · rw [if_pos q, if_pos ⟨Nat.lt_succ_of_lt q.1, q.2⟩]
      · rw [if_neg q, if_neg (fun z => q ⟨by have := z.1; omega, z.2⟩)]
theorem ctA_7 (X : XM) : ∀ (n s c : Nat), s < n → c < 20 → ctA X n 7 s c = -1
  | 0, s, c, h, _ => absurd h (Nat.not_lt_zero _)
  | n + 1, s, c, h, hc => by
    show ctS (ctA X n) n 20 7 s c = _
    rw [ctS_7]
    by_cases e : s = n
    · rw [if_pos ⟨e, hc⟩]
    · rw [if_neg (fun z => e z.1)]; exact ctA_7 X n s c (by omega) hc
/-! sums over students and courses -/
def sm (f : Nat → Int) : Nat → Int
  | 0 => 0
  | n + 1 => sm f n + f n
theorem sm_s (f : Nat → Int) (n : Nat) : sm f (n + 1) = sm f n + f n := rfl
theorem sm_cg {f g : Nat → Int} : ∀ n, (∀ c, c < n → f c = g c) → sm f n = sm g n
  | 0, _ => rfl
  | n + 1, h => by rw [sm_s, sm_s, sm_cg n (fun c hc => h c (by omega)), h n (by omega)]
theorem sm_swap (p : Nat → Nat → Bool) (m : Nat) : ∀ n, sm (fun c => cnt (fun s => p s c) n) m = sm (fun s => cnt (p s) m) n
  | 0 => by
    have : ∀ m, sm (fun _ => (0 : Int)) m = 0 := fun m => by
      induction m with
      | zero => rfl
      | succ m ih => rw [sm_s, ih]; rfl
    exact this m
  | n + 1 => by
    rw [sm_s, ← sm_swap p m n]
    have : ∀ m, sm (fun c => cnt (fun s => p s c) (n + 1)) m = sm (fun c => cnt (fun s => p s c) n) m + cnt (p n) m := fun m => by
      induction m with
      | zero => rfl
      | succ m ih => rw [sm_s, sm_s, ih, cnt_s, cnt_s]; omega
    exact this m
theorem caN_sm (X : XM) : ∀ n, caN X n = sm (fun s => cnt (tak X s) 20) n
  | 0 => rfl
  | n + 1 => by rw [sm_s, ← caN_sm X n]; rfl
theorem cnt_fr5 {p : Nat → Bool} {m : Nat} : ∀ k, (∀ c, m ≤ c → c < m + k → p c = false) → cnt p (m + k) = cnt p m
  | 0, _ => rfl
  | k + 1, h => by
    rw [show m + (k + 1) = (m + k) + 1 from rfl, cnt_s, cnt_fr5 k (fun c a b => h c a (by omega)), h (m + k) (by omega) (by omega)]
    simp
theorem tak_far {X : XM} (hO : WO X) {s c : Nat} (hs : (s : Int) < nS X) (hc : nC X ≤ (c : Int)) (h : c < 20) : tak X s c = false := by
  unfold tak
  rw [(wo_far hO s c hs hc h).1]
  decide
theorem caN_enr {X : XM} (hO : WO X) (h5 : nC X = 5) (hS : nS X = 5) : caN X 5 = sm (enr X) 5 := by
  rw [caN_sm]
  have e1 : sm (enr X) 5 = sm (fun c => cnt (fun s => tak X s c) 5) 5 := sm_cg 5 (fun c _ => by unfold enr; rw [hS]; rfl)
  rw [e1, sm_swap (fun s c => tak X s c) 5 5]
  refine sm_cg 5 (fun s hs => ?_)
  exact cnt_fr5 (m := 5) 15 (fun c a b => tak_far hO (by omega) (by omega) (by omega))
/-! the end of a term -/
theorem etO_k {X : XM} {k : Nat} (h0 : k ≠ 0) (h5 : k ≠ 5) (h7 : k ≠ 7) (h8 : k ≠ 8) (h9 : k ≠ 9) (h11 : k ≠ 11) : etO X k = X k := by
  unfold etO
  rw [xs_nk h0, xs_nk h0]
  exact ctA_k h5 h7 h8 h9 h11 _
theorem etO_day (X : XM) : etO X 0 0 5 = 0 := by
  unfold etO
  rw [xs_all, if_neg (by omega), xs_all, if_pos ⟨rfl, rfl, rfl⟩]
theorem etO_term (X : XM) : etO X 0 0 6 = X 0 0 6 + 1 := by
  unfold etO
  rw [xs_all, if_pos ⟨rfl, rfl, rfl⟩]
theorem etO_a {X : XM} {k : Nat} (h : k ≠ 0) (s c : Nat) : etO X k s c = ctA X (nS X).toNat k s c := by
  unfold etO
  rw [xs_nk h, xs_nk h]
theorem etO_9 {X : XM} (hO : WO X) {s c : Nat} (hs : (s : Int) < nS X) (hc : c < 20) : etO X 9 s c = X 9 s c + bi (tak X s c) := by
  have q := wo_nS hO
  rw [etO_a (by decide), ctA_9 X _ s c hc]
  cases e : tak X s c with
  | false => rw [if_neg (fun z => by cases z.2.1)]; simp [bi]
  | true =>
    have h3 := wo_tk3 hO s c hs hc (by unfold tak at e; exact of_decide_eq_true e)
    rw [if_pos ⟨by omega, rfl, by omega⟩]
    rfl
theorem etO_5 {X : XM} (hO : WO X) {s c : Nat} (hs : (s : Int) < nS X) (hc : c < 20) : tak (etO X) s c = false := by
  unfold tak
  rw [etO_a (by decide), ctA_z X _ s (by omega) c hc]
  decide
theorem etO_7 {X : XM} (hO : WO X) {s c : Nat} (hs : (s : Int) < nS X) (hc : c < 20) : etO X 7 s c = -1 := by
  rw [etO_a (by decide), ctA_7 X _ s c (by omega) hc]
theorem cnt_no {p : Nat → Bool} : ∀ n, (∀ c, c < n → p c = false) → cnt p n = 0
  | 0, _ => rfl
  | n + 1, h => by rw [cnt_s, cnt_no n (fun c hc => h c (by omega)), h n (by omega)]; simp
theorem crS_no {X : XM} {p : Nat → Bool} : ∀ n, (∀ c, c < n → p c = false) → crS X p n = 0
  | 0, _ => rfl
  | n + 1, h => by rw [crS_s, crS_no n (fun c hc => h c (by omega)), h n (by omega)]; simp
theorem SD_etO {X : XM} (hO : WO X) (hd : 5 < X 0 0 5) : SD (etO X) := by
  have q1 := wo_nC hO
  have q2 := wo_nS hO
  have e1 : etO X 1 = X 1 := etO_k (by decide) (by decide) (by decide) (by decide) (by decide) (by decide)
  have e12 : etO X 12 = X 12 := etO_k (by decide) (by decide) (by decide) (by decide) (by decide) (by decide)
  have eC : nC (etO X) = nC X := by unfold nC; rw [e1]
  have eS : nS (etO X) = nS X := by unfold nS; rw [e1]
  refine ⟨fun c hc => ?_, fun s hs => ?_, fun c k hc hk => ?_, fun c j k hc hj hk e => ?_⟩
  · have h1 := wo_sea hO c (by omega)
    have h2 : enr (etO X) c = 0 := by unfold enr; exact cnt_no _ (fun s hs => etO_5 hO (by omega) (by omega))
    rw [h2, e12]; omega
  · have h2 : load (etO X) s = 0 := by unfold load; exact crS_no _ (fun c hc => etO_5 hO (by omega) (by omega))
    omega
  · rw [e1] at hk; have := wo_w6 hO c (by omega) hd; omega
  · rw [e1] at hk; have := wo_w6 hO c (by omega) hd; omega
theorem NWT_etO {X : XM} (hO : WO X) (hd : 5 < X 0 0 5) : NWT (etO X) := fun c k hc hk => by
  have e1 : etO X 1 = X 1 := etO_k (by decide) (by decide) (by decide) (by decide) (by decide) (by decide)
  have eC : nC (etO X) = nC X := by unfold nC; rw [e1]
  rw [e1] at hk
  have := wo_w6 hO c (by omega) hd
  omega
/-! drops -/
theorem en1_9 (X : XM) (s c s2 c2 : Nat) : en1 X s c 9 s2 c2 = if s2 = s ∧ c2 = c ∧ (9 ≤ X 0 0 5 ∧ X 0 0 5 ≤ 20) ∧ X 9 s c < 3 then X 9 s c + 1 else X 9 s2 c2 := by
  have e9 : xs X 5 s c 0 9 = X 9 := xs_nk (by decide)
  unfold en1
  by_cases h : 9 ≤ X 0 0 5 ∧ X 0 0 5 ≤ 20
  · rw [if_pos h, aq_9, e9]
    by_cases e : s2 = s ∧ c2 = c ∧ X 9 s c < 3
    · rw [if_pos e, if_pos ⟨e.1, e.2.1, h, e.2.2⟩]
    · rw [if_neg e, if_neg (fun z => e ⟨z.1, z.2.1, z.2.2.2⟩)]
  · rw [if_neg h, e9, if_neg (fun z => h z.2.2.1)]
theorem tak_en1_f {X : XM} {s r s2 c2 : Nat} (h : tak X s2 c2 = false) : tak (en1 X s r) s2 c2 = false := by
  cases e : tak (en1 X s r) s2 c2 with
  | false => rfl
  | true => rw [tak_en1_le X s r s2 c2 e] at h; cases h
theorem eN_9 {s c : Nat} : ∀ (n : Nat) {X : XM} {z : Int}, WO X → (s : Int) < nS X → TC X s z → tak X s c = false → eN n X s z 9 s c = X 9 s c
  | 0, X, z, _, _, _, _ => rfl
  | n + 1, X, z, hO, hs, ht, hf => by
    rw [eN]
    by_cases e : z = -1
    · rw [if_pos e]
    · rw [if_neg e]
      rcases ht with ht | ⟨r, rfl, h1, h2⟩
      · exact absurd ht e
      · have hn : c ≠ r := fun q => by rw [q] at hf; rw [hf] at h2; cases h2
        have hO1 := wo_en1 hO hs h1 h2
        rw [show (r : Int).toNat = r from Int.toNat_natCast r]
        rw [eN_9 n hO1 (by rw [nS_en1]; exact hs) (TC_fu (FU_fu hO1 s)) (tak_en1_f hf), en1_9, if_neg (fun q => hn q.2.1)]
theorem eO_9 {X : XM} (hO : WO X) {s c : Nat} (hs : (s : Int) < nS X) (hc : (c : Int) < nC X) (ht : tak X s c = true) : eO X s (c : Int) 9 s c = X 9 s c + bi (decide (9 ≤ X 0 0 5 ∧ X 0 0 5 ≤ 20)) := by
  have q1 := wo_nC hO
  have h3 := wo_tk3 hO s c hs (by omega) (by unfold tak at ht; exact of_decide_eq_true ht)
  have hO1 := wo_en1 hO hs hc ht
  have hf : tak (en1 X s c) s c = false := by unfold tak; rw [en1_5, if_pos ⟨rfl, rfl⟩]; decide
  show eN (19 + 1) X s (c : Int) 9 s c = _
  rw [eN, if_neg (by omega), show (c : Int).toNat = c from Int.toNat_natCast c]
  rw [eN_9 19 hO1 (by rw [nS_en1]; exact hs) (TC_fu (FU_fu hO1 s)) hf, en1_9]
  by_cases e : 9 ≤ X 0 0 5 ∧ X 0 0 5 ≤ 20
  · rw [if_pos ⟨rfl, rfl, e, by omega⟩, decide_eq_true e]; rfl
  · rw [if_neg (fun z => e z.2.2.1), decide_eq_false e]; simp [bi]
theorem eN_met {s : Nat} : ∀ (n : Nat) {X : XM} {z : Int}, WO X → (s : Int) < nS X → TC X s z → (z = -1 → fu X s = -1) → cnt (tak X s) 20 < n → fu (eN n X s z) s = -1
  | 0, X, z, _, _, _, _, h => by have := (cnt_0 (tak X s) 20).1; omega
  | n + 1, X, z, hO, hs, ht, hz, h => by
    rw [eN]
    by_cases e : z = -1
    · rw [if_pos e]; exact hz e
    · rw [if_neg e]
      rcases ht with ht | ⟨r, rfl, h1, h2⟩
      · exact absurd ht e
      · have q1 := wo_nC hO
        have hO1 := wo_en1 hO hs h1 h2
        rw [show (r : Int).toNat = r from Int.toNat_natCast r]
        exact eN_met n hO1 (by rw [nS_en1]; exact hs) (TC_fu (FU_fu hO1 s)) (fun q => q) (by rw [cnt_en1 h2 (by omega)]; omega)
theorem eO_met {X : XM} (hO : WO X) {s c : Nat} (hs : (s : Int) < nS X) (hc : (c : Int) < nC X) (h19 : nC X ≤ 19) (ht : tak X s c = true) : ∀ c2 : Nat, (c2 : Int) < nC X → tak (eO X s (c : Int)) s c2 = true → mayT (eO X s (c : Int)) s c2 = true := by
  have hn := cnt_le_lt (p := tak X s) (c := 19) (tak_far hO hs (by omega) (by omega)) 20 (by omega)
  have hT : TC X s (c : Int) := Or.inr ⟨c, rfl, hc, ht⟩
  have hf : fu (eO X s (c : Int)) s = -1 := eN_met 20 hO hs hT (fun q => by omega) (by omega)
  have hOe := wo_eN 20 hO hs hT
  have hF := FU_fu hOe s
  have eC : nC (eO X s (c : Int)) = nC X := by unfold nC; rw [eO_k (by decide) (by decide) (by decide) (by decide)]
  intro c2 hc2 h2
  rcases hF with ⟨-, q⟩ | ⟨r, q, -⟩
  · have q2 := q c2 (Nat.zero_le _) (by show _ < nC (eO X s (c : Int)); omega)
    unfold unm at q2
    have h3 : tak (eN 20 X s (c : Int)) s c2 = true := h2
    rw [h3, Bool.true_and] at q2
    cases e : mayT (eO X s (c : Int)) s c2 with
    | true => rfl
    | false => have e2 : mayT (eN 20 X s (c : Int)) s c2 = false := e; rw [e2] at q2; cases q2
  · have h4 : fu (eN 20 X s (c : Int)) s = -1 := hf
    omega
/-! who may take a seat, over the same office but for its lists -/
theorem can_cg {X X' : XM} (hk : ∀ k, k ≠ 1 → k ≠ 2 → X' k = X k) (hl : ∀ i, i < 4 → X' 1 i 2 = X 1 i 2) (s c : Nat) : canT X' s c = canT X s c := by
  have eC : nC X' = nC X := hl 0 (by omega)
  have eS : nS X' = nS X := hl 1 (by omega)
  have e0 := hk 0 (by decide) (by decide)
  have e4 := hk 4 (by decide) (by decide)
  have e5 := hk 5 (by decide) (by decide)
  have e8 := hk 8 (by decide) (by decide)
  have e12 := hk 12 (by decide) (by decide)
  have e13 := hk 13 (by decide) (by decide)
  have e16 := hk 16 (by decide) (by decide)
  have q1 : ∀ c m, enrM X' c m = enrM X c m := fun c m => by
    unfold enrM
    rw [eS]
    exact cnt_cg _ (fun j _ => by rw [tak_k e5, e4])
  have q2 : ∀ m k, kept X' c m k = kept X c m k := fun m k => by
    induction k with
    | zero => rfl
    | succ k ih => unfold kept; rw [ih, q1, e13]
  have q3 : ∀ m, free X' c m = free X c m := fun m => by
    unfold free free0
    rw [e12, enr_k e5 eS, e0, q2]
  have q4 : ernd X' s = ernd X s := by
    unfold ernd
    rw [eC, crS_eq e12]
    exact crS_cg _ (fun j _ => by unfold psd; rw [e8])
  have q5 : mayT X' s c = mayT X s c := by
    unfold mayT hol
    rw [e12, holF_eq e16, e8, tak_k e5, q4]
  unfold canT fitsL
  rw [q3, e4, load_k e5 (fun c => by rw [e12]) eC, e12, q5]
theorem fst_no {X : XM} (hO : WO X) (h : NWT X) : fstW X = none := by
  cases e : fstW X with
  | none => rfl
  | some p =>
    have q := fst_lt hO e
    have := h p.1 p.2 q.1 q.2.1
    rw [q.2.2] at this
    cases this
theorem gv_id {X : XM} (hO : WO X) (h : NWT X) : gv X = X := by
  unfold gv
  split
  · rfl
  · exact gvN_none (fst_no hO h) _
theorem tak_seat {X : XM} {c k s c2 : Nat} (h : tak X s c2 = true) : tak (seat X c k) s c2 = true := by
  show tak (lv (xs X 5 (X 2 (4 + c) (k + 1)).toNat c 1) c k) s c2 = true
  rw [tak_k (lv_k (by decide) (by decide)), tak_t1, h, Bool.true_or]
theorem tak_gvN {s c : Nat} : ∀ (n : Nat) {X : XM}, tak X s c = true → tak (gvN n X) s c = true
  | 0, X, h => h
  | n + 1, X, h => by
    rw [gvN_c]
    cases e : fstW X with
    | none => exact h
    | some p => exact tak_gvN n (tak_seat h)
theorem tak_gv {X : XM} {s c : Nat} (h : tak X s c = true) : tak (gv X) s c = true := by
  unfold gv
  split
  · exact h
  · exact tak_gvN _ h
/-! one comes onto a list -/
section ADS
variable {α α' : AL} {ν ν' : Nat → Nat → Bool} {X X1 : XM} {c s : Nat}
theorem add_k (hP : ADD α ν X (4 + c) s α' ν' X1) : (∀ k, k ≠ 1 → k ≠ 2 → X1 k = X k) ∧ (∀ i, i < 4 → X1 1 i = X 1 i) :=
  ⟨fun k h1 h2 => funext fun j => hP.2.2.1 k j (fun z => h1 z.1) (fun z => h2 z.1), fun i hi => hP.2.2.1 1 i (fun z => by omega) (fun z => by omega)⟩
theorem add_n (hP : ADD α ν X (4 + c) s α' ν' X1) (c2 : Nat) : X1 1 (4 + c2) 2 = X 1 (4 + c2) 2 + (if c2 = c then 1 else 0) := by
  by_cases e : c2 = c
  · subst e; rw [if_pos rfl]; exact hP.2.2.2.2.1
  · rw [if_neg e, hP.2.2.1 1 (4 + c2) (fun z => by omega) (fun z => by omega), Int.add_zero]
theorem add_e (hO : WO X) (hc : (c : Int) < nC X) (hP : ADD α ν X (4 + c) s α' ν' X1) {c2 k : Nat} (hk : (k : Int) < X1 1 (4 + c2) 2) : ((k : Int) < X 1 (4 + c2) 2 ∧ X1 2 (4 + c2) (k + 1) = X 2 (4 + c2) (k + 1)) ∨ (c2 = c ∧ (k : Int) = X 1 (4 + c2) 2 ∧ X1 2 (4 + c2) (k + 1) = s) := by
  have q := wo_wN hO c hc
  rw [add_n hP] at hk
  by_cases e : c2 = c
  · subst e
    rw [if_pos rfl] at hk
    by_cases h : (k : Int) < X 1 (4 + c2) 2
    · exact Or.inl ⟨h, hP.2.2.2.2.2.2.2.1 k h⟩
    · have hk2 : (X 1 (4 + c2) 2).toNat = k := by omega
      have := hP.2.2.2.2.2.2.1
      rw [hk2] at this
      exact Or.inr ⟨rfl, by omega, this⟩
  · rw [if_neg e, Int.add_zero] at hk
    exact Or.inl ⟨hk, by rw [hP.2.2.1 2 (4 + c2) (fun z => by omega) (fun z => by omega)]⟩
theorem SD_add (hO : WO X) (h : SD X) (hc : (c : Int) < nC X) (hP : ADD α ν X (4 + c) s α' ν' X1) (hf : tak X s c = false) (hp : place X c s = -1) : SD X1 := by
  obtain ⟨hk, hl⟩ := add_k hP
  have eC : nC X1 = nC X := by unfold nC; rw [hl 0 (by omega)]
  have eS : nS X1 = nS X := by unfold nS; rw [hl 1 (by omega)]
  have e5 := hk 5 (by decide) (by decide)
  have e12 := hk 12 (by decide) (by decide)
  have hno : ∀ k : Nat, (k : Int) < X 1 (4 + c) 2 → X 2 (4 + c) (k + 1) = s → False := fun k h1 h2 => plc_in h2 (X 1 (4 + c) 2).toNat (by omega) hp
  refine ⟨fun c2 hc2 => ?_, fun t ht => ?_, fun c2 k hc2 hk2 => ?_, fun c2 j k hc2 hj hk2 e => ?_⟩
  · rw [enr_k e5 eS, e12]; exact h.1 c2 (by omega)
  · rw [load_k e5 (fun c => by rw [e12]) eC]; exact h.2.1 t (by omega)
  · rw [tak_k e5]
    rcases add_e hO hc hP hk2 with ⟨a1, a2⟩ | ⟨rfl, -, a2⟩
    · rw [a2]; exact h.2.2.1 c2 k (by omega) a1
    · rw [a2, Int.toNat_natCast]; exact hf
  · rcases add_e hO hc hP hj with ⟨a1, a2⟩ | ⟨rfl, a1, a2⟩
    · rcases add_e hO hc hP hk2 with ⟨b1, b2⟩ | ⟨rfl, b1, b2⟩
      · rw [a2, b2] at e; exact h.2.2.2 c2 j k (by omega) a1 b1 e
      · rw [a2, b2] at e; exact absurd e (hno j a1)
    · rcases add_e hO hc hP hk2 with ⟨b1, b2⟩ | ⟨-, b1, b2⟩
      · rw [a2, b2] at e; exact absurd e.symm (hno k b1)
      · omega
theorem NWT_add (hO : WO X) (h : NWT X) (hc : (c : Int) < nC X) (hP : ADD α ν X (4 + c) s α' ν' X1) (hf : ¬ 0 < free X c (X 4 s 0)) : NWT X1 := by
  obtain ⟨hk, hl⟩ := add_k hP
  have eC : nC X1 = nC X := by unfold nC; rw [hl 0 (by omega)]
  intro c2 k hc2 hk2
  rw [can_cg hk (fun i hi => by rw [hl i hi])]
  rcases add_e hO hc hP hk2 with ⟨a1, a2⟩ | ⟨rfl, -, a2⟩
  · rw [a2]; exact h c2 k (by omega) a1
  · rw [a2, Int.toNat_natCast]
    unfold canT
    rw [decide_eq_false hf]
    rfl
theorem place_add (hO : WO X) (hc : (c : Int) < nC X) (hP : ADD α ν X (4 + c) s α' ν' X1) : place X1 c s ≠ -1 := by
  have q := wo_wN hO c hc
  have n1 := add_n hP c
  rw [if_pos rfl] at n1
  exact plc_in (k := (X 1 (4 + c) 2).toNat) hP.2.2.2.2.2.2.1 (X1 1 (4 + c) 2).toNat (by omega)
end ADS
/-! what the law keeps -/
def OFF (X : XM) : Prop := nC X = 5 ∧ nS X = 5 ∧ nF X = 12
/-- a formula as the law wrote it down -/
def FTX (X : XM) (f : Nat) : Prop := (0 ≤ X 41 0 f ∧ X 41 0 f ≤ 6) ∧ (X 41 0 f = 0 → X 16 f 9 = 0 ∧ X 42 0 f = X 16 f 1 ∧ X 43 0 f = X 16 f 2) ∧ (X 41 0 f = 1 → X 16 f 9 = 1 ∧ X 42 0 f = X 16 f 1) ∧ (X 41 0 f = 2 → X 16 f 9 = 2 ∧ X 42 0 f = X 16 f 1) ∧ (X 41 0 f = 3 → X 16 f 9 = 3 ∧ X 16 f 1 = 2 ∧ X 16 f 4 = -1 ∧ X 42 0 f = X 16 f 2 ∧ X 43 0 f = X 16 f 3) ∧ (X 41 0 f = 4 → X 16 f 9 = 3 ∧ X 16 f 1 = 1 ∧ X 16 f 4 = -1 ∧ X 42 0 f = X 16 f 2 ∧ X 43 0 f = X 16 f 3) ∧ (X 41 0 f = 5 → X 16 f 9 = 3 ∧ X 16 f 1 = 2 ∧ 0 ≤ X 16 f 4 ∧ X 42 0 f = X 16 f 2 ∧ X 43 0 f = X 16 f 3 ∧ X 44 0 f = X 16 f 4) ∧ (X 41 0 f = 6 → X 16 f 9 = 4 ∧ X 42 0 f = X 16 f 1)
/-- courses, seats for majors, students, formulas as the law wrote them down -/
def TLC (X : XM) (n : Nat) : Prop := ∀ c : Nat, c < n → X 45 0 c = X 12 c 5 ∧ X 46 0 c = X 12 c 1 ∧ X 47 0 c = X 12 c 2 ∧ (∀ m : Nat, m < 4 → X 48 0 (4 * c + m) = X 13 c m) ∧ X 13 c 0 + X 13 c 1 + X 13 c 2 + X 13 c 3 ≤ X 12 c 2
def TLS (X : XM) (n : Nat) : Prop := ∀ s : Nat, s < n → X 49 0 s = X 4 s 0
def TLF (X : XM) (n : Nat) : Prop := ∀ f : Nat, f < n → FTX X f
def TLD (X : XM) : Prop := TLC X 5 ∧ TLS X 5 ∧ TLF X 12
def TMk (X : XM) : Prop := ∀ s c : Nat, s < 5 → c < 5 → X 7 s c = -1
/-- all of it but that nobody who waits can take a seat; and with that -/
def PRE (e : Int) (ν : Nat → Nat → Bool) (X : XM) : Prop := WX ν X ∧ NV ν X ∧ SD X ∧ OFF X ∧ TLD X ∧ TMk X ∧ X 0 0 6 ≤ e
def INV (e : Int) (ν : Nat → Nat → Bool) (X : XM) : Prop := PRE e ν X ∧ NWT X
theorem FTX_k {X X' : XM} (h16 : X' 16 = X 16) (h41 : X' 41 = X 41) (h42 : X' 42 = X 42) (h43 : X' 43 = X 43) (h44 : X' 44 = X 44) {f : Nat} (h : FTX X f) : FTX X' f := by
  unfold FTX
  rw [h16, h41, h42, h43, h44]
  exact h
theorem TLF_k {X X' : XM} (h16 : X' 16 = X 16) (h41 : X' 41 = X 41) (h42 : X' 42 = X 42) (h43 : X' 43 = X 43) (h44 : X' 44 = X 44) {n : Nat} (h : TLF X n) : TLF X' n := fun f hf => FTX_k h16 h41 h42 h43 h44 (h f hf)
theorem TLC_k {X X' : XM} (h12 : X' 12 = X 12) (h13 : X' 13 = X 13) (h45 : X' 45 = X 45) (h46 : X' 46 = X 46) (h47 : X' 47 = X 47) (h48 : X' 48 = X 48) {n : Nat} (h : TLC X n) : TLC X' n := fun c hc => by
  rw [h12, h13, h45, h46, h47, h48]
  exact h c hc
theorem TLS_k {X X' : XM} (h4 : X' 4 = X 4) (h49 : X' 49 = X 49) {n : Nat} (h : TLS X n) : TLS X' n := fun s hs => by
  rw [h4, h49]
  exact h s hs
theorem TLD_k {X X' : XM} (h : TLD X) (h4 : X' 4 = X 4) (h12 : X' 12 = X 12) (h13 : X' 13 = X 13) (h16 : X' 16 = X 16) (hk : ∀ k, 41 ≤ k → k ≤ 49 → X' k = X k) : TLD X' :=
  ⟨TLC_k h12 h13 (hk 45 (by decide) (by decide)) (hk 46 (by decide) (by decide)) (hk 47 (by decide) (by decide)) (hk 48 (by decide) (by decide)) h.1,
   TLS_k h4 (hk 49 (by decide) (by decide)) h.2.1,
   TLF_k h16 (hk 41 (by decide) (by decide)) (hk 42 (by decide) (by decide)) (hk 43 (by decide) (by decide)) (hk 44 (by decide) (by decide)) h.2.2⟩
theorem OFF_k {X X' : XM} (h : OFF X) (hl : ∀ i, i < 4 → X' 1 i 2 = X 1 i 2) : OFF X' := by
  unfold OFF nC nS nF
  rw [hl 0 (by omega), hl 1 (by omega), hl 2 (by omega)]
  exact h
/-- seats are given out behind a change -/
theorem INV_gv {e : Int} {ν : Nat → Nat → Bool} {Y : XM} (h : PRE e ν Y) : INV e ν (gv Y) := by
  obtain ⟨hW, hV, hS, hO, hT, hM, he⟩ := h
  refine ⟨⟨wx_gv hW, nv_kp hV (kq_gv hW.1).1, SD_gv hW.1 hS, OFF_k hO (fun i hi => gv_l hi), ?_, ?_, ?_⟩, NWT_gv hW.1⟩
  · exact TLD_k hT (gv_k (by decide) (by decide) (by decide)) (gv_k (by decide) (by decide) (by decide)) (gv_k (by decide) (by decide) (by decide)) (gv_k (by decide) (by decide) (by decide)) (fun k h1 h2 => gv_k (by omega) (by omega) (by omega))
  · unfold TMk; rw [gv_k (by decide) (by decide) (by decide)]; exact hM
  · rw [gv_k (by decide) (by decide) (by decide)]; exact he
/-- kinds that only the law has -/
theorem PRE_out {e : Int} {ν : Nat → Nat → Bool} {X X' : XM} (h : PRE e ν X) (hk : ∀ k, k < 31 → X' k = X k) (hT : TLD X') : PRE e ν X' := by
  obtain ⟨hW, hV, hS, hO, -, hM, he⟩ := h
  refine ⟨wx_cg hW (fun k q => hk k (by omega)), nv_kp hV (KP.same (hk 1 (by decide)) (hk 2 (by decide))), SD_cg hS (hk 1 (by decide)) (hk 2 (by decide)) (hk 5 (by decide)) (fun c => by rw [hk 12 (by decide)]; exact ⟨rfl, rfl⟩), OFF_k hO (fun i hi => by rw [hk 1 (by decide)]), hT, ?_, ?_⟩
  · unfold TMk; rw [hk 7 (by decide)]; exact hM
  · rw [hk 0 (by decide)]; exact he
/-- a change of one number that is no list, no enrollment, no mark, no credits or seats -/
theorem PRE_xs {e : Int} {ν : Nat → Nat → Bool} {X : XM} {k i j : Nat} {v : Int} (h : PRE e ν X) (h1 : k ≠ 1) (h2 : k ≠ 2) (h5 : k ≠ 5) (h7 : k ≠ 7) (h0 : k ≠ 0) (h12 : k = 12 → j ≠ 1 ∧ j ≠ 2) (hW : WX ν (xs X k i j v)) (hT : TLD (xs X k i j v)) : PRE e ν (xs X k i j v) := by
  obtain ⟨-, hV, hS, hO, -, hM, he⟩ := h
  refine ⟨hW, nv_kp hV (KP.xs h1 h2), SD_cg hS (xs_nk (Ne.symm h1)) (xs_nk (Ne.symm h2)) (xs_nk (Ne.symm h5)) (fun c => ?_), OFF_k hO (fun i hi => by rw [xs_nk (Ne.symm h1)]), hT, ?_, ?_⟩
  · by_cases q : k = 12
    · subst q
      have z := h12 rfl
      exact ⟨by rw [xs_all, if_neg (fun y => z.1 y.2.2.symm)], by rw [xs_all, if_neg (fun y => z.2 y.2.2.symm)]⟩
    · rw [xs_nk (Ne.symm q)]; exact ⟨rfl, rfl⟩
  · unfold TMk; rw [xs_nk (Ne.symm h7)]; exact hM
  · rw [xs_nk (Ne.symm h0)]; exact he
theorem PRE_e {e e2 : Int} {ν : Nat → Nat → Bool} {X : XM} (h : PRE e ν X) (he : e ≤ e2) : PRE e2 ν X := ⟨h.1, h.2.1, h.2.2.1, h.2.2.2.1, h.2.2.2.2.1, h.2.2.2.2.2.1, Int.le_trans h.2.2.2.2.2.2 he⟩
/-- a change of what soundness doesn't speak of -/
theorem PRE_Y {e : Int} {ν : Nat → Nat → Bool} {X Y : XM} (h : PRE e ν X) (h1 : Y 1 = X 1) (h2 : Y 2 = X 2) (h5 : Y 5 = X 5) (h7 : Y 7 = X 7) (h0 : Y 0 = X 0) (h12 : ∀ c, Y 12 c 1 = X 12 c 1 ∧ Y 12 c 2 = X 12 c 2) (hW : WX ν Y) (hT : TLD Y) : PRE e ν Y := by
  obtain ⟨-, hV, hS, hO, -, hM, he⟩ := h
  refine ⟨hW, nv_kp hV (KP.same h1 h2), SD_cg hS h1 h2 h5 h12, OFF_k hO (fun i hi => by rw [h1]), hT, ?_, ?_⟩
  · unfold TMk; rw [h7]; exact hM
  · rw [h0]; exact he
/-! the changes in turn -/
section CHG
variable {e : Int} {ν : Nat → Nat → Bool} {X : XM}
theorem PRE_enr {s c : Nat} (hI : INV e ν X) (hs : s < 5) (hc : c < 5) (hv : ltr X s c = 101) : PRE e ν (xs X 5 s c 1) := by
  obtain ⟨⟨hW, hV, hS, hO, hT, hM, he⟩, -⟩ := hI
  have eC := hO.1
  have eS := hO.2.1
  obtain ⟨l1, l2, ⟨l3, l4⟩, -, l5⟩ := ltr_at (Or.inl hv)
  have hfit : load X s + X 12 c 1 ≤ 18 := by
    unfold ltr at hv
    split at hv
    · omega
    · split at hv
      · omega
      · split at hv
        · omega
        · split at hv
          · omega
          · split at hv
            · omega
            · rename_i q
              have q2 : fitsL X s c = true := by
                cases z : fitsL X s c with
                | true => rfl
                | false => exact absurd z q
              exact of_decide_eq_true q2
  refine ⟨⟨wo_t1 hW.1 (by omega) (by omega) l2, wv_t1 hW.2 _ _ _⟩, nv_kp hV (KP.xs (by decide) (by decide)), ?_, OFF_k hO (fun i hi => by rw [xs_nk (by decide)]), ?_, ?_, ?_⟩
  · refine SD_t1 hS (by omega) (by omega) l3 (free_enr hW.1 (by omega) (l5 hv)) hfit (fun k hk z => ?_)
    have hw := wo_wA hW.1 c k (by omega) hk
    exact plc_in (k := k) (s := s) (by omega) (X 1 (4 + c) 2).toNat (by omega) l4
  · exact TLD_k hT (xs_nk (by decide)) (xs_nk (by decide)) (xs_nk (by decide)) (xs_nk (by decide)) (fun k h1 h2 => xs_nk (by omega))
  · unfold TMk; rw [xs_nk (by decide)]; exact hM
  · rw [xs_nk (by decide)]; exact he
theorem INV_add {α α' : AL} {ν' : Nat → Nat → Bool} {X1 : XM} {s c : Nat} (hI : INV e ν X) (hs : s < 5) (hc : c < 5) (hv : ltr X s c = 119) (hP : ADD α ν X (4 + c) s α' ν' X1) (hW1 : WX ν' X1) : INV e ν' X1 := by
  obtain ⟨⟨hW, hV, hS, hO, hT, hM, he⟩, hN⟩ := hI
  have eC := hO.1
  have eS := hO.2.1
  obtain ⟨l1, l2, ⟨l3, l4⟩, l5, -⟩ := ltr_at (Or.inr hv)
  obtain ⟨hk, hl⟩ := add_k hP
  refine ⟨⟨hW1, nv_add hW hV (by omega) (by omega) hP, SD_add hW.1 hS (by omega) hP l3 l4, OFF_k hO (fun i hi => by rw [hl i hi]), ?_, ?_, ?_⟩, NWT_add hW.1 hN (by omega) hP (l5 hv).2⟩
  · exact TLD_k hT (hk 4 (by decide) (by decide)) (hk 12 (by decide) (by decide)) (hk 13 (by decide) (by decide)) (hk 16 (by decide) (by decide)) (fun k h1 h2 => hk k (by omega) (by omega))
  · unfold TMk; rw [hk 7 (by decide) (by decide)]; exact hM
  · rw [hk 0 (by decide) (by decide)]; exact he
theorem PRE_eO {s c : Nat} (hI : INV e ν X) (hs : s < 5) (hc : c < 5) (ht : tak X s c = true) : PRE e ν (eO X s (c : Int)) := by
  obtain ⟨⟨hW, hV, hS, hO, hT, hM, he⟩, -⟩ := hI
  have eC := hO.1
  have eS := hO.2.1
  have hTC : TC X s (c : Int) := Or.inr ⟨c, rfl, by omega, ht⟩
  refine ⟨wx_eN hW (by omega) hTC, nv_kp hV (kq_eO hW.1 (by omega) hTC).1, SD_eO hW.1 hS s _, OFF_k hO (fun i hi => by rw [eO_k (by decide) (by decide) (by decide) (by decide)]), ?_, ?_, ?_⟩
  · exact TLD_k hT (eO_k (by decide) (by decide) (by decide) (by decide)) (eO_k (by decide) (by decide) (by decide) (by decide)) (eO_k (by decide) (by decide) (by decide) (by decide)) (eO_k (by decide) (by decide) (by decide) (by decide)) (fun k h1 h2 => eO_k (by omega) (by omega) (by omega) (by omega))
  · unfold TMk; rw [eO_k (by decide) (by decide) (by decide) (by decide)]; exact hM
  · rw [eO_k (by decide) (by decide) (by decide) (by decide)]; exact he
theorem PRE_lv {c k : Nat} (hI : INV e ν X) (hc : c < 5) (hk : (k : Int) < X 1 (4 + c) 2) : PRE e ν (lv X c k) := by
  obtain ⟨⟨hW, hV, hS, hO, hT, hM, he⟩, -⟩ := hI
  have eC := hO.1
  refine ⟨⟨wo_lv hW.1 (by omega) hk, wv_lv hW (by omega) hk⟩, nv_kp hV (KP.lv (by omega)), SD_leave hS hk, OFF_k hO (fun i hi => by rw [lv_ne (by omega)]), ?_, ?_, ?_⟩
  · exact TLD_k hT (lv_k (by decide) (by decide)) (lv_k (by decide) (by decide)) (lv_k (by decide) (by decide)) (lv_k (by decide) (by decide)) (fun k h1 h2 => lv_k (by omega) (by omega))
  · unfold TMk; rw [lv_k (by decide) (by decide)]; exact hM
  · rw [lv_k (by decide) (by decide)]; exact he
theorem dyB_k {k : Nat} (h0 : k ≠ 0) (h1 : k ≠ 1) (h2 : k ≠ 2) : dyB X k = X k := by
  unfold dyB
  split
  · rw [xs_nk h0, emA_k X h1 h2]
  · exact xs_nk h0
theorem psN_k {k : Nat} (h0 : k ≠ 0) (h1 : k ≠ 1) (h2 : k ≠ 2) (h5 : k ≠ 5) : ∀ n, psN X n k = X k
  | 0 => rfl
  | n + 1 => by
    show gv (dyB (psN X n)) k = _
    rw [gv_k h1 h2 h5, dyB_k h0 h1 h2, psN_k h0 h1 h2 h5 n]
theorem INV_ps {n : Nat} (hI : INV e ν X) (hn : X 0 0 5 + n ≤ 30) : INV e ν (psN X n) := by
  obtain ⟨⟨hW, hV, hS, hO, hT, hM, he⟩, hN⟩ := hI
  have q := SD_psN hW.1 hS hN n hn
  have hq := kq_psN hW.1 n (by omega)
  refine ⟨⟨wx_psN hW n hn, nv_kp hV hq.1, q.1, OFF_k hO (fun i hi => psN_l X hi n), ?_, ?_, ?_⟩, q.2⟩
  · exact TLD_k hT (psN_k (by decide) (by decide) (by decide) (by decide) n) (psN_k (by decide) (by decide) (by decide) (by decide) n) (psN_k (by decide) (by decide) (by decide) (by decide) n) (psN_k (by decide) (by decide) (by decide) (by decide) n) (fun k h1 h2 => psN_k (by omega) (by omega) (by omega) (by omega) n)
  · unfold TMk; rw [psN_k (by decide) (by decide) (by decide) (by decide) n]; exact hM
  · rw [hq.2.2.2]; exact he
theorem INV_et (hW : WX ν X) (hV : NV ν X) (hO : OFF X) (hT : TLD X) (he : X 0 0 6 ≤ e) (he2 : e + 1 ≤ 1000000) (hd : 20 < X 0 0 5) : INV (e + 1) ν (etO X) := by
  have hl : ∀ i, i < 4 → etO X 1 i 2 = X 1 i 2 := fun i hi => by rw [etO_k (by decide) (by decide) (by decide) (by decide) (by decide) (by decide)]
  refine ⟨⟨wx_etO hW (by omega) (by omega), nv_kp hV (KP.same (etO_k (by decide) (by decide) (by decide) (by decide) (by decide) (by decide)) (etO_k (by decide) (by decide) (by decide) (by decide) (by decide) (by decide))), SD_etO hW.1 (by omega), OFF_k hO hl, ?_, ?_, ?_⟩, NWT_etO hW.1 (by omega)⟩
  · exact TLD_k hT (etO_k (by decide) (by decide) (by decide) (by decide) (by decide) (by decide)) (etO_k (by decide) (by decide) (by decide) (by decide) (by decide) (by decide)) (etO_k (by decide) (by decide) (by decide) (by decide) (by decide) (by decide)) (etO_k (by decide) (by decide) (by decide) (by decide) (by decide) (by decide)) (fun k h1 h2 => etO_k (by omega) (by omega) (by omega) (by omega) (by omega) (by omega))
  · exact fun s c hs hc => etO_7 hW.1 (by have := hO.2.1; omega) (by omega)
  · rw [etO_term]; omega
end CHG
