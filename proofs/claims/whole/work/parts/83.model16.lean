/-! THE REFERENCE: what can be reached -/
/-- the rules of a student's major: how many, which, what they need; whether a course counts -/
def prM (O : XM) (s : Nat) : Nat → Bool := fun r => decide (O 14 r 0 = O 4 s 0)
def nsl (O : XM) (s : Nat) : Nat := (cnt (prM O s) (nR O).toNat).toNat
def itR (O : XM) (s k : Nat) : Nat := itN (prM O s) k (nR O).toNat
def ndR (O : XM) (s : Nat) : Nat → Int := fun k => O 14 (itR O s k) 1
def bbR (O : XM) (s : Nat) (b : Bool) (c : Nat) : Int := if (b && tak O s c) = true then 100 else O 8 s c
def ftR (O : XM) (s : Nat) (b : Bool) (c k : Nat) : Bool := decide ((c : Int) < nC O) && (decide (O 15 (itR O s k) c ≠ 0) && (decide (50 ≤ bbR O s b c) && decide (O 14 (itR O s k) 2 ≤ bbR O s b c)))
theorem nsl_4 {O : XM} (hO : WO O) (s : Nat) : nsl O s ≤ 4 := by
  have a := wo_rm4 hO (O 4 s 0)
  have b := cnt_0 (prM O s) (nR O).toNat
  unfold nsl
  have c : cnt (prM O s) (nR O).toNat ≤ 4 := a
  omega
theorem itR_p {O : XM} (hO : WO O) {s k : Nat} (hk : k < nsl O s) : (itR O s k : Int) < nR O ∧ O 14 (itR O s k) 0 = O 4 s 0 := by
  have q := wo_nR hO
  have b := cnt_0 (prM O s) (nR O).toNat
  unfold nsl at hk
  obtain ⟨a1, a2, -⟩ := itN_p (p := prM O s) (k := k) (nR O).toNat (by omega)
  unfold itR
  exact ⟨by omega, of_decide_eq_true a2⟩
theorem itR_lt {O : XM} {s k k2 : Nat} (h : k < k2) (h2 : k2 < nsl O s) : itR O s k < itR O s k2 := by
  have b := cnt_0 (prM O s) (nR O).toNat
  unfold nsl at h2
  exact itN_lt h (by omega)
theorem ndR_R {O : XM} (hO : WO O) {s k : Nat} (hk : k < nsl O s) : 1 ≤ ndR O s k ∧ ndR O s k ≤ 3 := by
  have q := itR_p hO hk
  have w := wo_rul hO (itR O s k) q.1
  unfold ndR
  omega
theorem ftR_far {O : XM} {s : Nat} {b : Bool} {c k : Nat} (h : ¬ (c : Int) < nC O) : ftR O s b c k = false := by
  unfold ftR
  rw [decide_eq_false h]
  rfl
/-- the reference's rows of a student's rules -/
def LKr (O X : XM) (s : Nat) (b : Bool) (rm : Nat → Int) : Prop := X 40 0 35 = nsl O s ∧ X 40 0 36 = s ∧ X 40 0 37 = bi b ∧ ∀ k, k < nsl O s → X 73 0 k = itR O s k ∧ X 74 0 k = rm k
theorem LKr_cg {O X Y : XM} {s : Nat} {b : Bool} {rm : Nat → Int} (h : LKr O X s b rm) (hk : ∀ kk, kk ≠ 78 → Y kk = X kk) : LKr O Y s b rm := by
  unfold LKr
  rw [hk 40 (by decide), hk 73 (by decide), hk 74 (by decide)]
  exact h
theorem rm_78 {O X Y : XM} (h : RM O X) (hk : ∀ kk, kk ≠ 78 → Y kk = X kk) : RM O Y := rm_cg h (fun k a b => hk k (by omega)) (fun j _ => by rw [hk 40 (by decide)])
/-- the row of what is reached says R -/
def MP (X : XM) (R : Nat → Prop) : Prop := ∀ g, g < 256 → (X 78 0 g = 0 ∨ X 78 0 g = 1) ∧ (X 78 0 g = 1 ↔ R g)
theorem MP_cg {X : XM} {R S : Nat → Prop} (h : MP X R) (hs : ∀ g, g < 256 → (R g ↔ S g)) : MP X S := fun g hg => ⟨(h g hg).1, (h g hg).2.trans (hs g hg)⟩
theorem MP_set {X : XM} {R S : Nat → Prop} {j : Nat} (h : MP X R) (hs : ∀ g, g < 256 → (S g ↔ R g ∨ g = j)) : MP (xs X 78 0 j 1) S := fun g hg => by
  rw [xs_at]
  by_cases e : g = j
  · rw [if_pos e]; exact ⟨Or.inr rfl, ⟨fun _ => (hs g hg).mpr (Or.inr e), fun _ => rfl⟩⟩
  · rw [if_neg e]
    refine ⟨(h g hg).1, (h g hg).2.trans ⟨fun q => (hs g hg).mpr (Or.inl q), fun q => ?_⟩⟩
    rcases (hs g hg).mp q with q | q
    · exact q
    · exact absurd q e
section STG
variable {m : Nat} {fit : Nat → Nat → Bool} {rm : Nat → Int}
/-- a course in course: fillings from lo on are done; of f2 the first k slots -/
def Rm (m : Nat) (fit : Nat → Nat → Bool) (rm : Nat → Int) (R : Nat → Prop) (c lo : Nat) (g : Nat) : Prop := R g ∨ ∃ f k, lo ≤ f ∧ k < m ∧ g = up1 f k ∧ R f ∧ fit c k = true ∧ (dg f k : Int) < rm k
def Rn (m : Nat) (fit : Nat → Nat → Bool) (rm : Nat → Int) (R : Nat → Prop) (c f2 k0 : Nat) (g : Nat) : Prop := Rm m fit rm R c (f2 + 1) g ∨ ∃ k, k < k0 ∧ k < m ∧ g = up1 f2 k ∧ R f2 ∧ fit c k = true ∧ (dg f2 k : Int) < rm k
theorem Rm_top {R : Nat → Prop} {c : Nat} (hl : ∀ g, R g → g < 256) (g : Nat) : R g ↔ Rm m fit rm R c 256 g := by
  constructor
  · exact Or.inl
  · rintro (h | ⟨f, k, h1, h2, h3, h4, h5⟩)
    · exact h
    · have := hl f h4; omega
theorem Rm_bot {fr fill i : Nat} (g : Nat) : Rm m fit rm (Rc m fit rm fr fill i) (fr + i) 0 g ↔ Rc m fit rm fr fill (i + 1) g := by
  constructor
  · rintro (h | ⟨f, k, h1, h2, h3, h4, h5⟩)
    · exact Or.inl h
    · exact Or.inr ⟨f, k, h2, h3, h4, h5⟩
  · rintro (h | ⟨f, k, h2, h3, h4, h5⟩)
    · exact Or.inl h
    · exact Or.inr ⟨f, k, Nat.zero_le f, h2, h3, h4, h5⟩
theorem Rn_0 {R : Nat → Prop} {c f2 : Nat} (g : Nat) : Rm m fit rm R c (f2 + 1) g ↔ Rn m fit rm R c f2 0 g := by
  constructor
  · exact Or.inl
  · rintro (h | ⟨k, h1, h2⟩)
    · exact h
    · exact absurd h1 (Nat.not_lt_zero k)
theorem Rn_m {R : Nat → Prop} {c f2 k0 : Nat} (hk : m ≤ k0) (g : Nat) : Rn m fit rm R c f2 k0 g ↔ Rm m fit rm R c f2 g := by
  constructor
  · rintro ((h | ⟨f, k, h1, h2⟩) | ⟨k, h1, h2, h3⟩)
    · exact Or.inl h
    · exact Or.inr ⟨f, k, by omega, h2⟩
    · exact Or.inr ⟨f2, k, Nat.le_refl f2, h2, h3⟩
  · rintro (h | ⟨f, k, h1, h2, h3⟩)
    · exact Or.inl (Or.inl h)
    · by_cases e : f = f2
      · subst e; exact Or.inr ⟨k, by omega, h2, h3⟩
      · exact Or.inl (Or.inr ⟨f, k, by omega, h2, h3⟩)
theorem Rn_no {R : Nat → Prop} {c f2 k0 : Nat} (hR : ¬ R f2) (g : Nat) : Rn m fit rm R c f2 k0 g ↔ Rm m fit rm R c f2 g := by
  constructor
  · rintro ((h | ⟨f, k, h1, h2⟩) | ⟨k, h1, h2, h3, h4, h5⟩)
    · exact Or.inl h
    · exact Or.inr ⟨f, k, by omega, h2⟩
    · exact absurd h4 hR
  · rintro (h | ⟨f, k, h1, h2, h3, h4, h5⟩)
    · exact Or.inl (Or.inl h)
    · have : f ≠ f2 := fun e => hR (e ▸ h4)
      exact Or.inl (Or.inr ⟨f, k, by omega, h2, h3, h4, h5⟩)
/-- a filling itself isn't touched while it is at work -/
theorem Rn_self {R : Nat → Prop} {c f2 k0 : Nat} : Rn m fit rm R c f2 k0 f2 ↔ R f2 := by
  constructor
  · rintro ((h | ⟨f, k, h1, h2, h3, h4⟩) | ⟨k, h1, h2, h3, h4⟩)
    · exact h
    · have := up1_gt f k; omega
    · exact h4.1
  · exact fun h => Or.inl (Or.inl h)
theorem Rn_y {R : Nat → Prop} {c f2 k : Nat} (hk : k < m) (hR : R f2) (hf : fit c k = true) (hd : (dg f2 k : Int) < rm k) (g : Nat) : Rn m fit rm R c f2 (k + 1) g ↔ Rn m fit rm R c f2 k g ∨ g = up1 f2 k := by
  constructor
  · rintro (h | ⟨j, h1, h2, h3, h4⟩)
    · exact Or.inl (Or.inl h)
    · by_cases e : j = k
      · subst e; exact Or.inr h3
      · exact Or.inl (Or.inr ⟨j, by omega, h2, h3, h4⟩)
  · rintro ((h | ⟨j, h1, h2, h3, h4⟩) | h)
    · exact Or.inl h
    · exact Or.inr ⟨j, by omega, h2, h3, h4⟩
    · exact Or.inr ⟨k, Nat.lt_succ_self k, hk, h, hR, hf, hd⟩
theorem Rn_n {R : Nat → Prop} {c f2 k : Nat} (h : ¬ (fit c k = true ∧ (dg f2 k : Int) < rm k)) (g : Nat) : Rn m fit rm R c f2 k g ↔ Rn m fit rm R c f2 (k + 1) g := by
  constructor
  · rintro (q | ⟨j, h1, h2⟩)
    · exact Or.inl q
    · exact Or.inr ⟨j, by omega, h2⟩
  · rintro (q | ⟨j, h1, h2, h3, h4, h5⟩)
    · exact Or.inl q
    · by_cases e : j = k
      · subst e; exact absurd h5 h
      · exact Or.inr ⟨j, by omega, h2, h3, h4, h5⟩
/-- the greatest of the first n -/
def GMx (R : Nat → Prop) (n : Nat) (z : Int) : Prop := 0 ≤ z ∧ z ≤ 12 ∧ (∀ g, g < n → R g → (nf g : Int) ≤ z) ∧ (z = 0 ∨ ∃ g, R g ∧ (nf g : Int) = z)
theorem nf_12 (g : Nat) : nf g ≤ 12 := by
  have a := dg_le g 0
  have b := dg_le g 1
  have c := dg_le g 2
  have d := dg_le g 3
  unfold nf
  omega
theorem GMx_0 (R : Nat → Prop) : GMx R 0 0 := ⟨Int.le_refl 0, by decide, fun g h => absurd h (Nat.not_lt_zero g), Or.inl rfl⟩
theorem GMx_n {R : Nat → Prop} {n : Nat} {z : Int} (h : GMx R n z) (hn : R n → (nf n : Int) ≤ z) : GMx R (n + 1) z := ⟨h.1, h.2.1, fun g hg hR => by
  by_cases e : g = n
  · subst e; exact hn hR
  · exact h.2.2.1 g (by omega) hR, h.2.2.2⟩
theorem GMx_y {R : Nat → Prop} {n : Nat} {z : Int} (h : GMx R n z) (hR : R n) (hn : z < nf n) : GMx R (n + 1) (nf n) := ⟨by have := h.1; omega, by have := nf_12 n; omega, fun g hg hR => by
  by_cases e : g = n
  · subst e; exact Int.le_refl _
  · have := h.2.2.1 g (by omega) hR; omega, Or.inr ⟨n, hR, rfl⟩⟩
theorem GMx_end {R : Nat → Prop} {n g0 : Nat} {z : Int} (h : GMx R n z) (hl : ∀ g, R g → g < n) (h0 : R g0) : mx R = z := by
  refine mx_eq ⟨fun g hg => h.2.2.1 g (hl g hg) hg, ?_⟩
  rcases h.2.2.2 with q | q
  · refine ⟨g0, h0, ?_⟩
    have := h.2.2.1 g0 (hl g0 h0) h0
    omega
  · exact q
theorem Rc_self {fr fill : Nat} : ∀ i, Rc m fit rm fr fill i fill
  | 0 => rfl
  | i + 1 => Or.inl (Rc_self i)
end STG
set_option maxRecDepth 100000 in
set_option maxHeartbeats 4000000 in
theorem c_X12_of {g : Gt} {h : AH} {f k : Nat} (hf : f < 256) (hk : k < 4) : Pr g M_X12_of 0 [.int (J (f : Int)), .int (J (k : Int))] h (some (.int (J (dg f k : Int)))) := by
  refine pr_of rfl rfl (ls := [some (.int (J (f : Int))), some (.int (J (k : Int)))]) rfl (Nat.le_of_ble_eq_true rfl) ?_
  show Ev g M_X12_of 0 0 [some (.int (J (f : Int))), some (.int (J (k : Int)))] [] h 0 0 (PQ (some (.int (J (dg f k : Int)))) h)
  refine ev_ild0 1 dX12_of_0 rfl ?_
  refine tj_iconst 2 dX12_of_1 rfl ?_
  refine ev_ild1 3 dX12_of_2 rfl ?_
  refine tj_imul 4 dX12_of_3 rfl ?_
  refine tj_ishr 5 dX12_of_4 f (2 * k) rfl (by omega) (by omega) (by omega) rfl ?_
  refine tj_iconst 6 dX12_of_5 rfl ?_
  refine tj_iand 7 dX12_of_6 (f >>> (2 * k)) 3 rfl rfl rfl ?_
  exact ev_ireturn (pq_i (by first | rfl | omega | exact bi_dt (by omega) | exact bi_df (by omega) | (rfl))) rfl dX12_of_7
set_option maxRecDepth 100000 in
set_option maxHeartbeats 4000000 in
theorem c_X12_counts {g : Gt} {α : AL} {ν : Nat → Nat → Bool} {X : XM} {h : AH} (hT : TR g α ν X h) {O : XM} (hO : WO O) (hM : RM O X) {s : Nat} (hs : (s : Int) < nS O) {b : Bool} {rm : Nat → Int} (hL : LKr O X s b rm) {c : Nat} (hc : (c : Int) < nC O) {k : Nat} (hk : k < nsl O s) : Pr g M_X12_counts 2 [.ref (α 40 0), .int (J (c : Int)), .int (J (itR O s k : Int))] h (some (.int (J (bi (ftR O s b c k))))) := by
  refine pr_of rfl rfl (ls := [some (.ref (α 40 0)), some (.int (J (c : Int))), some (.int (J (itR O s k : Int))), none]) rfl (Nat.le_of_ble_eq_true rfl) ?_
  show Ev g M_X12_counts 2 0 [some (.ref (α 40 0)), some (.int (J (c : Int))), some (.int (J (itR O s k : Int))), none] [] h 0 0 (PQ (some (.int (J (bi (ftR O s b c k))))) h)
  have q0 := rm_nC hM
  have q1 := wo_nC hO
  have q2 := rm_nS hM
  have q3 := wo_nS hO
  have qn := nsl_4 hO s
  obtain ⟨l1, l2, l3, l4⟩ := hL
  have qit := itR_p hO hk
  have qnR := wo_nR hO
  have qal := rm_alw hM (itR O s k) qit.1
  have qrl := (rm_rul hM (itR O s k) qit.1).2.2
  have qrm := wo_rul hO (itR O s k) qit.1
  have qbs := wo_bst hO s c hs (by omega)
  refine ev_ald0 1 dX12_counts_0 rfl ?_
  refine ev_getfield 4 14 37 fl_X12_267_14 (tr40 hT) rfl dX12_counts_1 rfl ?_
  refine tj_if_eq 28 7 dX12_counts_4 (by decide) rfl (by first | exact TR.rng hT _ _ _ | exact R31_of _ | exact bi_R _ | (constructor <;> omega)) (fun c4 => ?_) (fun c4 => ?_)
  · skip
    have hbb : bbR O s b c = O 8 s c := by unfold bbR; rw [if_neg (fun q => by have q2 := ((Bool.and_eq_true _ _).mp q).1; rw [q2] at l3; rw [l3] at c4; exact absurd c4 (by decide))]
    refine ev_ald0 29 dX12_counts_28 rfl ?_
    refine ev_ald0 30 dX12_counts_29 rfl ?_
    refine ev_getfield 33 14 36 fl_X12_264_14 (tr40 hT) rfl dX12_counts_30 rfl ?_
    refine ev_ild1 34 dX12_counts_33 rfl ?_
    refine tc_V2 37 14 dX12_counts_34 lkv_X12_114 (tr40 hT) rfl rfl (by first | decide | omega) (Nat.le_of_ble_eq_true rfl) (l2 ▸ c_X12_bestOf hT hO hM hs (c := c) (by omega)) ?_
    refine ev_ist3 38 dX12_counts_37 rfl (by decide) rfl ?_
    refine ev_ald0 39 dX12_counts_38 rfl ?_
    refine ev_getfield 42 14 27 fl_X12_70_14 (tr40 hT) rfl dX12_counts_39 rfl ?_
    refine ev_ild2 43 dX12_counts_42 rfl ?_
    first | refine tv_iald 44 (tr67 hT) _ rfl (by omega) (by omega) dX12_counts_43 rfl ?_ | refine tv_iald 44 (tr67 hT) (Int.toNat _) (by omega) (by omega) (by omega) dX12_counts_43 rfl ?_
    refine ev_ild1 45 dX12_counts_44 rfl ?_
    refine tc_S2 48 dX12_counts_45 lks_X12_106 rfl (by first | decide | omega) (Nat.le_of_ble_eq_true rfl) (has_of qal (by omega) rfl : Pr g M_X12_has 0 _ h (some (.int (J (bi (decide (O 15 (itR O s k) c ≠ 0))))))) ?_
    refine tb_if_eq 71 51 dX12_counts_48 (by decide) rfl (fun c48 => ?_) (fun c48 => ?_)
    · skip
      refine tj_iconst 72 dX12_counts_71 rfl ?_
      exact tz_ret (by first | rfl | omega | exact bi_dt (by omega) | exact bi_df (by omega) | (unfold ftR; rw [decide_eq_true hc, hbb, c48]; first | rfl | (rw [decide_eq_true (by omega), decide_eq_true (by omega)]; rfl) | (rw [decide_eq_true (by omega), decide_eq_false (by omega)]; rfl) | (rw [decide_eq_false (by omega)]; rfl))) rfl dX12_counts_72
    · skip
      refine ev_ild3 52 dX12_counts_51 rfl ?_
      refine tj_bipush 54 dX12_counts_52 (by decide) rfl ?_
      refine tj_icmp_lt 71 57 dX12_counts_54 (by decide) rfl (by first | exact TR.rng hT _ _ _ | exact R31_of _ | exact bi_R _ | (constructor <;> omega)) (by first | exact TR.rng hT _ _ _ | exact R31_of _ | exact bi_R _ | (constructor <;> omega)) (fun c54 => ?_) (fun c54 => ?_)
      · skip
        refine tj_iconst 72 dX12_counts_71 rfl ?_
        exact tz_ret (by first | rfl | omega | exact bi_dt (by omega) | exact bi_df (by omega) | (unfold ftR; rw [decide_eq_true hc, hbb, c48]; first | rfl | (rw [decide_eq_true (by omega), decide_eq_true (by omega)]; rfl) | (rw [decide_eq_true (by omega), decide_eq_false (by omega)]; rfl) | (rw [decide_eq_false (by omega)]; rfl))) rfl dX12_counts_72
      · skip
        refine ev_ild3 58 dX12_counts_57 rfl ?_
        refine ev_ald0 59 dX12_counts_58 rfl ?_
        refine ev_getfield 62 14 26 fl_X12_67_14 (tr40 hT) rfl dX12_counts_59 rfl ?_
        refine ev_ild2 63 dX12_counts_62 rfl ?_
        refine tv_iald 64 (tr66 hT) (itR O s k) (by omega) (by omega) (by omega) dX12_counts_63 rfl ?_
        refine tj_icmp_lt 71 67 dX12_counts_64 (by decide) rfl (by first | exact TR.rng hT _ _ _ | exact R31_of _ | exact bi_R _ | (constructor <;> omega)) (by first | exact TR.rng hT _ _ _ | exact R31_of _ | exact bi_R _ | (constructor <;> omega)) (fun c64 => ?_) (fun c64 => ?_)
        · skip
          refine tj_iconst 72 dX12_counts_71 rfl ?_
          exact tz_ret (by first | rfl | omega | exact bi_dt (by omega) | exact bi_df (by omega) | (unfold ftR; rw [decide_eq_true hc, hbb, c48]; first | rfl | (rw [decide_eq_true (by omega), decide_eq_true (by omega)]; rfl) | (rw [decide_eq_true (by omega), decide_eq_false (by omega)]; rfl) | (rw [decide_eq_false (by omega)]; rfl))) rfl dX12_counts_72
        · skip
          refine tj_iconst 68 dX12_counts_67 rfl ?_
          refine ev_goto 72 dX12_counts_68 (by decide) ?_
          exact tz_ret (by first | rfl | omega | exact bi_dt (by omega) | exact bi_df (by omega) | (unfold ftR; rw [decide_eq_true hc, hbb, c48]; first | rfl | (rw [decide_eq_true (by omega), decide_eq_true (by omega)]; rfl) | (rw [decide_eq_true (by omega), decide_eq_false (by omega)]; rfl) | (rw [decide_eq_false (by omega)]; rfl))) rfl dX12_counts_72
  · skip
    refine ev_ald0 8 dX12_counts_7 rfl ?_
    refine ev_getfield 11 14 12 fl_X12_31_14 (tr40 hT) rfl dX12_counts_8 rfl ?_
    refine ev_ald0 12 dX12_counts_11 rfl ?_
    refine ev_getfield 15 14 36 fl_X12_264_14 (tr40 hT) rfl dX12_counts_12 rfl ?_
    refine tv_iald 16 (tr52 hT) (s) (by omega) (by omega) (by omega) dX12_counts_15 rfl ?_
    refine ev_ild1 17 dX12_counts_16 rfl ?_
    refine tc_S2 20 dX12_counts_17 lks_X12_106 rfl (by first | decide | omega) (Nat.le_of_ble_eq_true rfl) (has_of (rm_tak hM _ (by omega)) (by omega) rfl : Pr g M_X12_has 0 _ h (some (.int (J (bi (tak O _ _)))))) ?_
    refine tb_if_eq 28 23 dX12_counts_20 (by decide) rfl (fun c20 => ?_) (fun c20 => ?_)
    · skip
      have hbb : bbR O s b c = O 8 s c := by unfold bbR; rw [if_neg (fun q => Bool.false_ne_true (c20.symm.trans ((Bool.and_eq_true _ _).mp q).2))]
      refine ev_ald0 29 dX12_counts_28 rfl ?_
      refine ev_ald0 30 dX12_counts_29 rfl ?_
      refine ev_getfield 33 14 36 fl_X12_264_14 (tr40 hT) rfl dX12_counts_30 rfl ?_
      refine ev_ild1 34 dX12_counts_33 rfl ?_
      refine tc_V2 37 14 dX12_counts_34 lkv_X12_114 (tr40 hT) rfl rfl (by first | decide | omega) (Nat.le_of_ble_eq_true rfl) (l2 ▸ c_X12_bestOf hT hO hM hs (c := c) (by omega)) ?_
      refine ev_ist3 38 dX12_counts_37 rfl (by decide) rfl ?_
      refine ev_ald0 39 dX12_counts_38 rfl ?_
      refine ev_getfield 42 14 27 fl_X12_70_14 (tr40 hT) rfl dX12_counts_39 rfl ?_
      refine ev_ild2 43 dX12_counts_42 rfl ?_
      first | refine tv_iald 44 (tr67 hT) _ rfl (by omega) (by omega) dX12_counts_43 rfl ?_ | refine tv_iald 44 (tr67 hT) (Int.toNat _) (by omega) (by omega) (by omega) dX12_counts_43 rfl ?_
      refine ev_ild1 45 dX12_counts_44 rfl ?_
      refine tc_S2 48 dX12_counts_45 lks_X12_106 rfl (by first | decide | omega) (Nat.le_of_ble_eq_true rfl) (has_of qal (by omega) rfl : Pr g M_X12_has 0 _ h (some (.int (J (bi (decide (O 15 (itR O s k) c ≠ 0))))))) ?_
      refine tb_if_eq 71 51 dX12_counts_48 (by decide) rfl (fun c48 => ?_) (fun c48 => ?_)
      · skip
        refine tj_iconst 72 dX12_counts_71 rfl ?_
        exact tz_ret (by first | rfl | omega | exact bi_dt (by omega) | exact bi_df (by omega) | (unfold ftR; rw [decide_eq_true hc, hbb, c48]; first | rfl | (rw [decide_eq_true (by omega), decide_eq_true (by omega)]; rfl) | (rw [decide_eq_true (by omega), decide_eq_false (by omega)]; rfl) | (rw [decide_eq_false (by omega)]; rfl))) rfl dX12_counts_72
      · skip
        refine ev_ild3 52 dX12_counts_51 rfl ?_
        refine tj_bipush 54 dX12_counts_52 (by decide) rfl ?_
        refine tj_icmp_lt 71 57 dX12_counts_54 (by decide) rfl (by first | exact TR.rng hT _ _ _ | exact R31_of _ | exact bi_R _ | (constructor <;> omega)) (by first | exact TR.rng hT _ _ _ | exact R31_of _ | exact bi_R _ | (constructor <;> omega)) (fun c54 => ?_) (fun c54 => ?_)
        · skip
          refine tj_iconst 72 dX12_counts_71 rfl ?_
          exact tz_ret (by first | rfl | omega | exact bi_dt (by omega) | exact bi_df (by omega) | (unfold ftR; rw [decide_eq_true hc, hbb, c48]; first | rfl | (rw [decide_eq_true (by omega), decide_eq_true (by omega)]; rfl) | (rw [decide_eq_true (by omega), decide_eq_false (by omega)]; rfl) | (rw [decide_eq_false (by omega)]; rfl))) rfl dX12_counts_72
        · skip
          refine ev_ild3 58 dX12_counts_57 rfl ?_
          refine ev_ald0 59 dX12_counts_58 rfl ?_
          refine ev_getfield 62 14 26 fl_X12_67_14 (tr40 hT) rfl dX12_counts_59 rfl ?_
          refine ev_ild2 63 dX12_counts_62 rfl ?_
          refine tv_iald 64 (tr66 hT) (itR O s k) (by omega) (by omega) (by omega) dX12_counts_63 rfl ?_
          refine tj_icmp_lt 71 67 dX12_counts_64 (by decide) rfl (by first | exact TR.rng hT _ _ _ | exact R31_of _ | exact bi_R _ | (constructor <;> omega)) (by first | exact TR.rng hT _ _ _ | exact R31_of _ | exact bi_R _ | (constructor <;> omega)) (fun c64 => ?_) (fun c64 => ?_)
          · skip
            refine tj_iconst 72 dX12_counts_71 rfl ?_
            exact tz_ret (by first | rfl | omega | exact bi_dt (by omega) | exact bi_df (by omega) | (unfold ftR; rw [decide_eq_true hc, hbb, c48]; first | rfl | (rw [decide_eq_true (by omega), decide_eq_true (by omega)]; rfl) | (rw [decide_eq_true (by omega), decide_eq_false (by omega)]; rfl) | (rw [decide_eq_false (by omega)]; rfl))) rfl dX12_counts_72
          · skip
            refine tj_iconst 68 dX12_counts_67 rfl ?_
            refine ev_goto 72 dX12_counts_68 (by decide) ?_
            exact tz_ret (by first | rfl | omega | exact bi_dt (by omega) | exact bi_df (by omega) | (unfold ftR; rw [decide_eq_true hc, hbb, c48]; first | rfl | (rw [decide_eq_true (by omega), decide_eq_true (by omega)]; rfl) | (rw [decide_eq_true (by omega), decide_eq_false (by omega)]; rfl) | (rw [decide_eq_false (by omega)]; rfl))) rfl dX12_counts_72
    · skip
      have hbt : b = true := by cases b; exact absurd l3 c4; rfl
      have hbb : bbR O s b c = 100 := by unfold bbR; rw [hbt, c20]; rfl
      refine tj_bipush 25 dX12_counts_23 (by decide) rfl ?_
      refine ev_goto 37 dX12_counts_25 (by decide) ?_
      refine ev_ist3 38 dX12_counts_37 rfl (by decide) rfl ?_
      refine ev_ald0 39 dX12_counts_38 rfl ?_
      refine ev_getfield 42 14 27 fl_X12_70_14 (tr40 hT) rfl dX12_counts_39 rfl ?_
      refine ev_ild2 43 dX12_counts_42 rfl ?_
      first | refine tv_iald 44 (tr67 hT) _ rfl (by omega) (by omega) dX12_counts_43 rfl ?_ | refine tv_iald 44 (tr67 hT) (Int.toNat _) (by omega) (by omega) (by omega) dX12_counts_43 rfl ?_
      refine ev_ild1 45 dX12_counts_44 rfl ?_
      refine tc_S2 48 dX12_counts_45 lks_X12_106 rfl (by first | decide | omega) (Nat.le_of_ble_eq_true rfl) (has_of qal (by omega) rfl : Pr g M_X12_has 0 _ h (some (.int (J (bi (decide (O 15 (itR O s k) c ≠ 0))))))) ?_
      refine tb_if_eq 71 51 dX12_counts_48 (by decide) rfl (fun c48 => ?_) (fun c48 => ?_)
      · skip
        refine tj_iconst 72 dX12_counts_71 rfl ?_
        exact tz_ret (by first | rfl | omega | exact bi_dt (by omega) | exact bi_df (by omega) | (unfold ftR; rw [decide_eq_true hc, hbb, c48]; first | rfl | (rw [decide_eq_true (by omega), decide_eq_true (by omega)]; rfl) | (rw [decide_eq_true (by omega), decide_eq_false (by omega)]; rfl) | (rw [decide_eq_false (by omega)]; rfl))) rfl dX12_counts_72
      · skip
        refine ev_ild3 52 dX12_counts_51 rfl ?_
        refine tj_bipush 54 dX12_counts_52 (by decide) rfl ?_
        refine tj_icmp_lt 71 57 dX12_counts_54 (by decide) rfl (by first | exact TR.rng hT _ _ _ | exact R31_of _ | exact bi_R _ | (constructor <;> omega)) (by first | exact TR.rng hT _ _ _ | exact R31_of _ | exact bi_R _ | (constructor <;> omega)) (fun c54 => ?_) (fun c54 => ?_)
        · skip
          refine tj_iconst 72 dX12_counts_71 rfl ?_
          exact tz_ret (by first | rfl | omega | exact bi_dt (by omega) | exact bi_df (by omega) | (unfold ftR; rw [decide_eq_true hc, hbb, c48]; first | rfl | (rw [decide_eq_true (by omega), decide_eq_true (by omega)]; rfl) | (rw [decide_eq_true (by omega), decide_eq_false (by omega)]; rfl) | (rw [decide_eq_false (by omega)]; rfl))) rfl dX12_counts_72
        · skip
          refine ev_ild3 58 dX12_counts_57 rfl ?_
          refine ev_ald0 59 dX12_counts_58 rfl ?_
          refine ev_getfield 62 14 26 fl_X12_67_14 (tr40 hT) rfl dX12_counts_59 rfl ?_
          refine ev_ild2 63 dX12_counts_62 rfl ?_
          refine tv_iald 64 (tr66 hT) (itR O s k) (by omega) (by omega) (by omega) dX12_counts_63 rfl ?_
          refine tj_icmp_lt 71 67 dX12_counts_64 (by decide) rfl (by first | exact TR.rng hT _ _ _ | exact R31_of _ | exact bi_R _ | (constructor <;> omega)) (by first | exact TR.rng hT _ _ _ | exact R31_of _ | exact bi_R _ | (constructor <;> omega)) (fun c64 => ?_) (fun c64 => ?_)
          · skip
            refine tj_iconst 72 dX12_counts_71 rfl ?_
            exact tz_ret (by first | rfl | omega | exact bi_dt (by omega) | exact bi_df (by omega) | (unfold ftR; rw [decide_eq_true hc, hbb, c48]; first | rfl | (rw [decide_eq_true (by omega), decide_eq_true (by omega)]; rfl) | (rw [decide_eq_true (by omega), decide_eq_false (by omega)]; rfl) | (rw [decide_eq_false (by omega)]; rfl))) rfl dX12_counts_72
          · skip
            refine tj_iconst 68 dX12_counts_67 rfl ?_
            refine ev_goto 72 dX12_counts_68 (by decide) ?_
            exact tz_ret (by first | rfl | omega | exact bi_dt (by omega) | exact bi_df (by omega) | (unfold ftR; rw [decide_eq_true hc, hbb, c48]; first | rfl | (rw [decide_eq_true (by omega), decide_eq_true (by omega)]; rfl) | (rw [decide_eq_true (by omega), decide_eq_false (by omega)]; rfl) | (rw [decide_eq_false (by omega)]; rfl))) rfl dX12_counts_72
set_option maxRecDepth 100000 in
set_option maxHeartbeats 4000000 in
theorem c_X12_canGive {g : Gt} {α : AL} {ν : Nat → Nat → Bool} {X : XM} {h : AH} (hT : TR g α ν X h) {O : XM} (hO : WO O) (hM : RM O X) {s : Nat} (hs : (s : Int) < nS O) {b : Bool} {rm : Nat → Int} (hL : LKr O X s b rm) {c : Nat} (hc : (c : Int) < nC O) {f k : Nat} (hf : f < 256) (hk : k < nsl O s) (hr : rm k ≤ 3) : Pr g M_X12_canGive 3 [.ref (α 40 0), .int (J (f : Int)), .int (J (c : Int)), .int (J (k : Int))] h (some (.int (J (bi (ftR O s b c k && decide ((dg f k : Int) < rm k)))))) := by
  refine pr_of rfl rfl (ls := [some (.ref (α 40 0)), some (.int (J (f : Int))), some (.int (J (c : Int))), some (.int (J (k : Int)))]) rfl (Nat.le_of_ble_eq_true rfl) ?_
  show Ev g M_X12_canGive 3 0 [some (.ref (α 40 0)), some (.int (J (f : Int))), some (.int (J (c : Int))), some (.int (J (k : Int)))] [] h 0 0 (PQ (some (.int (J (bi (ftR O s b c k && decide ((dg f k : Int) < rm k)))))) h)
  have q0 := rm_nC hM
  have q1 := wo_nC hO
  have q2 := rm_nS hM
  have q3 := wo_nS hO
  have qn := nsl_4 hO s
  have hl4 := hL.2.2.2 k hk
  have qdg := dg_le f k
  refine ev_ald0 1 dX12_canGive_0 rfl ?_
  refine ev_ild2 2 dX12_canGive_1 rfl ?_
  refine ev_ald0 3 dX12_canGive_2 rfl ?_
  refine ev_getfield 6 14 33 fl_X12_79_14 (tr40 hT) rfl dX12_canGive_3 rfl ?_
  refine ev_ild3 7 dX12_canGive_6 rfl ?_
  refine tv_iald 8 (tr73 hT) (k) (by omega) (by omega) (by omega) dX12_canGive_7 rfl ?_
  refine tc_V2 11 14 dX12_canGive_8 lkv_X12_274 (tr40 hT) rfl rfl (by first | decide | omega) (Nat.le_of_ble_eq_true rfl) (hl4.1 ▸ c_X12_counts hT hO hM hs hL hc hk) ?_
  refine tb_if_eq 32 14 dX12_canGive_11 (by decide) rfl (fun c11 => ?_) (fun c11 => ?_)
  · skip
    refine tj_iconst 33 dX12_canGive_32 rfl ?_
    exact tz_ret (by first | rfl | omega | exact bi_dt (by omega) | exact bi_df (by omega) | (first | (rw [c11]; rfl) | (rw [c11, decide_eq_true (by omega)]; rfl) | (rw [c11, decide_eq_false (by omega)]; rfl))) rfl dX12_canGive_33
  · skip
    refine ev_ild1 15 dX12_canGive_14 rfl ?_
    refine ev_ild3 16 dX12_canGive_15 rfl ?_
    refine tc_S2 19 dX12_canGive_16 lks_X12_277 rfl (by first | decide | omega) (Nat.le_of_ble_eq_true rfl) (c_X12_of hf (by omega)) ?_
    refine ev_ald0 20 dX12_canGive_19 rfl ?_
    refine ev_getfield 23 14 34 fl_X12_82_14 (tr40 hT) rfl dX12_canGive_20 rfl ?_
    refine ev_ild3 24 dX12_canGive_23 rfl ?_
    refine tv_iald 25 (tr74 hT) (k) (by omega) (by omega) (by omega) dX12_canGive_24 rfl ?_
    refine tj_icmp_ge 32 28 dX12_canGive_25 (by decide) rfl (by first | exact TR.rng hT _ _ _ | exact R31_of _ | exact bi_R _ | (constructor <;> omega)) (by first | exact TR.rng hT _ _ _ | exact R31_of _ | exact bi_R _ | (constructor <;> omega)) (fun c25 => ?_) (fun c25 => ?_)
    · skip
      refine tj_iconst 33 dX12_canGive_32 rfl ?_
      exact tz_ret (by first | rfl | omega | exact bi_dt (by omega) | exact bi_df (by omega) | (first | (rw [c11]; rfl) | (rw [c11, decide_eq_true (by omega)]; rfl) | (rw [c11, decide_eq_false (by omega)]; rfl))) rfl dX12_canGive_33
    · skip
      refine tj_iconst 29 dX12_canGive_28 rfl ?_
      refine ev_goto 33 dX12_canGive_29 (by decide) ?_
      exact tz_ret (by first | rfl | omega | exact bi_dt (by omega) | exact bi_df (by omega) | (first | (rw [c11]; rfl) | (rw [c11, decide_eq_true (by omega)]; rfl) | (rw [c11, decide_eq_false (by omega)]; rfl))) rfl dX12_canGive_33
set_option maxRecDepth 100000 in
set_option maxHeartbeats 4000000 in
theorem c_X12_mostFrom {g : Gt} {α : AL} {ν : Nat → Nat → Bool} {X : XM} {h : AH} (hT : TR g α ν X h) {O : XM} (hO : WO O) (hM : RM O X) {s : Nat} (hs : (s : Int) < nS O) {b : Bool} {rm : Nat → Int} (hL : LKr O X s b rm) (hr : ∀ k, k < nsl O s → rm k ≤ 3) {fl fr : Nat} (hfl : fl < 256) (hfr : (fr : Int) ≤ nC O) : Mu g α ν M_X12_mostFrom 4 [.ref (α 40 0), .int (J (fl : Int)), .int (J (fr : Int))] h (some (.int (J (mx (Rc (nsl O s) (ftR O s b) rm fr fl ((nC O).toNat - fr)))))) (fun X' => ∀ kk, kk ≠ 78 → X' kk = X kk) := by
  refine mu_of rfl rfl (ls := [some (.ref (α 40 0)), some (.int (J (fl : Int))), some (.int (J (fr : Int))), none, none, none]) rfl (Nat.le_of_ble_eq_true rfl) ?_
  show Ev g M_X12_mostFrom 4 0 [some (.ref (α 40 0)), some (.int (J (fl : Int))), some (.int (J (fr : Int))), none, none, none] [] h 0 0 (UQ g α ν (some (.int (J (mx (Rc (nsl O s) (ftR O s b) rm fr fl ((nC O).toNat - fr)))))) (fun X' => ∀ kk, kk ≠ 78 → X' kk = X kk))
  have q0 := rm_nC hM
  have q1 := wo_nC hO
  have q2 := rm_nS hM
  have q3 := wo_nS hO
  have qn := nsl_4 hO s
  have hRl := fun i g (h : Rc (nsl O s) (ftR O s b) rm fr fl i g) => Rc_lt qn hr hfl i h
  refine tj_iconst 1 dX12_mostFrom_0 rfl ?_
  refine ev_ist3 2 dX12_mostFrom_1 rfl (by decide) rfl ?_
  have lp2 : ∀ (n2 : Nat) (f : Nat) (z3 : Int) (o4 o5 : Option Value) (h : AH) (X2 : XM), 257 - f < n2 → (f ≤ 256) → z3 = (f : Int) → TR g α ν X2 h → ((∀ kk, kk ≠ 78 → X2 kk = X kk) ∧ ∀ g, g < f → X2 78 0 g = if g = fl then 1 else 0) → Ev g M_X12_mostFrom 4 2 [some (.ref (α 40 0)), some (.int (J (fl : Int))), some (.int (J (fr : Int))), some (.int (J z3)), o4, o5] [] h 0 0 (UQ g α ν (some (.int (J (mx (Rc (nsl O s) (ftR O s b) rm fr fl ((nC O).toNat - fr)))))) (fun X' => ∀ kk, kk ≠ 78 → X' kk = X kk)) := by
    intro n2
    induction n2 with
    | zero => intro f z3 o4 o5 h X2 hm; exact absurd hm (Nat.not_lt_zero _)
    | succ n2 ih2 =>
      intro f z3 o4 o5 h X2 hm2 hf e3 hT hI
      subst e3
      refine ev_ild3 3 dX12_mostFrom_2 rfl ?_
      refine tj_sipush 6 dX12_mostFrom_3 (by decide) rfl ?_
      refine tj_icmp_ge 31 9 dX12_mostFrom_6 (by decide) rfl (by first | exact TR.rng hT _ _ _ | exact R31_of _ | exact bi_R _ | (constructor <;> omega)) (by first | exact TR.rng hT _ _ _ | exact R31_of _ | exact bi_R _ | (constructor <;> omega)) (fun c6 => ?_) (fun c6 => ?_)
      · skip
        refine ev_ild2 32 dX12_mostFrom_31 rfl ?_
        refine ev_ist3 33 dX12_mostFrom_32 rfl (by decide) rfl ?_
        have lp33 : ∀ (n33 : Nat) (c : Nat) (z3 : Int) (o4 o5 : Option Value) (h : AH) (X3 : XM), 21 - c < n33 → (fr ≤ c) → ((c : Int) ≤ nC O) → z3 = (c : Int) → TR g α ν X3 h → ((∀ kk, kk ≠ 78 → X3 kk = X kk) ∧ MP X3 (Rc (nsl O s) (ftR O s b) rm fr fl (c - fr))) → Ev g M_X12_mostFrom 4 33 [some (.ref (α 40 0)), some (.int (J (fl : Int))), some (.int (J (fr : Int))), some (.int (J z3)), o4, o5] [] h 0 0 (UQ g α ν (some (.int (J (mx (Rc (nsl O s) (ftR O s b) rm fr fl ((nC O).toNat - fr)))))) (fun X' => ∀ kk, kk ≠ 78 → X' kk = X kk)) := by
          intro n33
          induction n33 with
          | zero => intro c z3 o4 o5 h X3 hm; exact absurd hm (Nat.not_lt_zero _)
          | succ n33 ih33 =>
            intro c z3 o4 o5 h X3 hm33 hc1 hc2 e3 hT hI
            subst e3
            have hM3 : RM O X3 := rm_78 hM hI.1
            have hL3 : LKr O X3 s b rm := LKr_cg hL hI.1
            have q03 := rm_nC hM3
            have l13 := hL3.1
            have hRc := hRl (c - fr)
            refine ev_ild3 34 dX12_mostFrom_33 rfl ?_
            refine ev_ald0 35 dX12_mostFrom_34 rfl ?_
            refine ev_getfield 38 14 3 fl_X12_93_14 (tr40 hT) rfl dX12_mostFrom_35 rfl ?_
            refine tj_icmp_ge 118 41 dX12_mostFrom_38 (by decide) rfl (by first | exact TR.rng hT _ _ _ | exact R31_of _ | exact bi_R _ | (constructor <;> omega)) (by first | exact TR.rng hT _ _ _ | exact R31_of _ | exact bi_R _ | (constructor <;> omega)) (fun c38 => ?_) (fun c38 => ?_)
            · skip
              have hcN : c = (nC O).toNat := by omega
              subst hcN
              have hMPe := hI.2
              refine tj_iconst 119 dX12_mostFrom_118 rfl ?_
              refine ev_ist3 120 dX12_mostFrom_119 rfl (by decide) rfl ?_
              refine tj_iconst 121 dX12_mostFrom_120 rfl ?_
              refine ev_ist4 123 dX12_mostFrom_121 rfl (by decide) rfl ?_
              have lp123 : ∀ (n123 : Nat) (f : Nat) (z : Int) (z3 : Int) (z4 : Int) (o5 : Option Value), 257 - f < n123 → (f ≤ 256) → (GMx (Rc (nsl O s) (ftR O s b) rm fr fl ((nC O).toNat - fr)) f z) → z3 = z → z4 = (f : Int) → Ev g M_X12_mostFrom 4 123 [some (.ref (α 40 0)), some (.int (J (fl : Int))), some (.int (J (fr : Int))), some (.int (J z3)), some (.int (J z4)), o5] [] h 0 0 (UQ g α ν (some (.int (J (mx (Rc (nsl O s) (ftR O s b) rm fr fl ((nC O).toNat - fr)))))) (fun X' => ∀ kk, kk ≠ 78 → X' kk = X kk)) := by
                intro n123
                induction n123 with
                | zero => intro f z z3 z4 o5 hm; exact absurd hm (Nat.not_lt_zero _)
                | succ n123 ih123 =>
                  intro f z z3 z4 o5 hm123 hf hz e3 e4
                  subst e3
                  subst e4
                  have hz0 := hz.1
                  have hz1 := hz.2.1
                  have hnf := nf_12 f
                  have hnd : (nf f : Int) = dg f 0 + dg f 1 + dg f 2 + dg f 3 := by unfold nf; omega
                  refine ev_ild4 125 dX12_mostFrom_123 rfl ?_
                  refine tj_sipush 128 dX12_mostFrom_125 (by decide) rfl ?_
                  refine tj_icmp_ge 189 131 dX12_mostFrom_128 (by decide) rfl (by first | exact TR.rng hT _ _ _ | exact R31_of _ | exact bi_R _ | (constructor <;> omega)) (by first | exact TR.rng hT _ _ _ | exact R31_of _ | exact bi_R _ | (constructor <;> omega)) (fun c128 => ?_) (fun c128 => ?_)
                  · skip
                    refine ev_ild3 190 dX12_mostFrom_189 rfl ?_
                    exact ev_ireturn (uq_i (by first | rfl | omega | exact bi_dt (by omega) | exact bi_df (by omega) | (exact (GMx_end (n := 256) (show GMx _ 256 _ from (show f = 256 by omega) ▸ hz) (fun g q => hRl _ g q) (Rc_self _)).symm)) hT (by exact hI.1)) rfl dX12_mostFrom_190
                  · skip
                    refine ev_ild4 133 dX12_mostFrom_131 rfl ?_
                    refine tj_iconst 134 dX12_mostFrom_133 rfl ?_
                    refine tc_S2 137 dX12_mostFrom_134 lks_X12_277 rfl (by first | decide | omega) (Nat.le_of_ble_eq_true rfl) (c_X12_of (f := f) (k := 0) (by omega) (by omega)) ?_
                    refine ev_ild4 139 dX12_mostFrom_137 rfl ?_
                    refine tj_iconst 140 dX12_mostFrom_139 rfl ?_
                    refine tc_S2 143 dX12_mostFrom_140 lks_X12_277 rfl (by first | decide | omega) (Nat.le_of_ble_eq_true rfl) (c_X12_of (f := f) (k := 1) (by omega) (by omega)) ?_
                    refine tj_iadd 144 dX12_mostFrom_143 rfl ?_
                    refine ev_ild4 146 dX12_mostFrom_144 rfl ?_
                    refine tj_iconst 147 dX12_mostFrom_146 rfl ?_
                    refine tc_S2 150 dX12_mostFrom_147 lks_X12_277 rfl (by first | decide | omega) (Nat.le_of_ble_eq_true rfl) (c_X12_of (f := f) (k := 2) (by omega) (by omega)) ?_
                    refine tj_iadd 151 dX12_mostFrom_150 rfl ?_
                    refine ev_ild4 153 dX12_mostFrom_151 rfl ?_
                    refine tj_iconst 154 dX12_mostFrom_153 rfl ?_
                    refine tc_S2 157 dX12_mostFrom_154 lks_X12_277 rfl (by first | decide | omega) (Nat.le_of_ble_eq_true rfl) (c_X12_of (f := f) (k := 3) (by omega) (by omega)) ?_
                    refine tj_iadd 158 dX12_mostFrom_157 rfl ?_
                    refine ev_ist5 160 dX12_mostFrom_158 rfl (by decide) rfl ?_
                    refine ev_ald0 161 dX12_mostFrom_160 rfl ?_
                    refine ev_getfield 164 14 38 fl_X12_85_14 (tr40 hT) rfl dX12_mostFrom_161 rfl ?_
                    refine ev_ild4 166 dX12_mostFrom_164 rfl ?_
                    refine tv_zald 167 (tr78 hT) (f) (by omega) (by omega) (by omega) dX12_mostFrom_166 rfl ?_
                    refine tj_if_eq 181 170 dX12_mostFrom_167 (by decide) rfl (by first | exact TR.rng hT _ _ _ | exact R31_of _ | exact bi_R _ | (constructor <;> omega)) (fun c167 => ?_) (fun c167 => ?_)
                    · skip
                      obtain ⟨z9, hz9⟩ : ∃ z9 : Int, z9 = z3 ∧ GMx (Rc (nsl O s) (ftR O s b) rm fr fl ((nC O).toNat - fr)) (f + 1) z9 := ⟨z3, rfl, GMx_n hz (fun q => by have := (hMPe f (by omega)).2.mpr q; omega)⟩
                      refine ev_ild3 182 dX12_mostFrom_181 rfl ?_
                      refine ev_ist3 183 dX12_mostFrom_182 rfl (by decide) rfl ?_
                      refine tj_inc4 186 dX12_mostFrom_183 rfl (by decide) rfl ?_
                      refine ev_goto 123 dX12_mostFrom_186 (by decide) ?_
                      exact ih123 (f + 1) (z9) _ _ _ (by omega) (by first | omega | assumption | first | exact GMx_0 _ | exact hz9.2) (by first | omega | assumption | first | exact GMx_0 _ | exact hz9.2) (by first | rfl | omega | (first | exact hz9.1.symm | (have := hz9.1; omega))) (by first | rfl | omega | (first | exact hz9.1.symm | (have := hz9.1; omega)))
                    · skip
                      refine ev_ild5 172 dX12_mostFrom_170 rfl ?_
                      refine ev_ild3 173 dX12_mostFrom_172 rfl ?_
                      refine tj_icmp_le 181 176 dX12_mostFrom_173 (by decide) rfl (by first | exact TR.rng hT _ _ _ | exact R31_of _ | exact bi_R _ | (constructor <;> omega)) (by first | exact TR.rng hT _ _ _ | exact R31_of _ | exact bi_R _ | (constructor <;> omega)) (fun c173 => ?_) (fun c173 => ?_)
                      · skip
                        obtain ⟨z9, hz9⟩ : ∃ z9 : Int, z9 = z3 ∧ GMx (Rc (nsl O s) (ftR O s b) rm fr fl ((nC O).toNat - fr)) (f + 1) z9 := ⟨z3, rfl, GMx_n hz (fun q => by omega)⟩
                        refine ev_ild3 182 dX12_mostFrom_181 rfl ?_
                        refine ev_ist3 183 dX12_mostFrom_182 rfl (by decide) rfl ?_
                        refine tj_inc4 186 dX12_mostFrom_183 rfl (by decide) rfl ?_
                        refine ev_goto 123 dX12_mostFrom_186 (by decide) ?_
                        exact ih123 (f + 1) (z9) _ _ _ (by omega) (by first | omega | assumption | first | exact GMx_0 _ | exact hz9.2) (by first | omega | assumption | first | exact GMx_0 _ | exact hz9.2) (by first | rfl | omega | (first | exact hz9.1.symm | (have := hz9.1; omega))) (by first | rfl | omega | (first | exact hz9.1.symm | (have := hz9.1; omega)))
                      · skip
                        have hRf : Rc (nsl O s) (ftR O s b) rm fr fl ((nC O).toNat - fr) f := (hMPe f (by omega)).2.mp (by have := (hMPe f (by omega)).1; omega)
                        obtain ⟨z9, hz9⟩ : ∃ z9 : Int, z9 = (nf f : Int) ∧ GMx (Rc (nsl O s) (ftR O s b) rm fr fl ((nC O).toNat - fr)) (f + 1) z9 := ⟨_, rfl, GMx_y hz hRf (by omega)⟩
                        refine ev_ild5 178 dX12_mostFrom_176 rfl ?_
                        refine ev_goto 182 dX12_mostFrom_178 (by decide) ?_
                        refine ev_ist3 183 dX12_mostFrom_182 rfl (by decide) rfl ?_
                        refine tj_inc4 186 dX12_mostFrom_183 rfl (by decide) rfl ?_
                        refine ev_goto 123 dX12_mostFrom_186 (by decide) ?_
                        exact ih123 (f + 1) (z9) _ _ _ (by omega) (by first | omega | assumption | first | exact GMx_0 _ | exact hz9.2) (by first | omega | assumption | first | exact GMx_0 _ | exact hz9.2) (by first | rfl | omega | (first | exact hz9.1.symm | (have := hz9.1; omega))) (by first | rfl | omega | (first | exact hz9.1.symm | (have := hz9.1; omega)))
              exact lp123 _ (0) (0) _ _ _ (Nat.lt_succ_self _) (by first | omega | assumption | first | exact GMx_0 _ | exact hz9.2) (by first | omega | assumption | first | exact GMx_0 _ | exact hz9.2) (by first | rfl | omega | (first | exact hz9.1.symm | (have := hz9.1; omega))) (by first | rfl | omega | (first | exact hz9.1.symm | (have := hz9.1; omega)))
            · skip
              refine tj_sipush 44 dX12_mostFrom_41 (by decide) rfl ?_
              refine ev_ist4 46 dX12_mostFrom_44 rfl (by decide) rfl ?_
              have lp46 : ∀ (n46 : Nat) (f : Nat) (z4 : Int) (o5 : Option Value) (h : AH) (X4 : XM), f < n46 → (f ≤ 256) → z4 = (f : Int) - 1 → TR g α ν X4 h → ((∀ kk, kk ≠ 78 → X4 kk = X kk) ∧ MP X4 (Rm (nsl O s) (ftR O s b) rm (Rc (nsl O s) (ftR O s b) rm fr fl (c - fr)) c f)) → Ev g M_X12_mostFrom 4 46 [some (.ref (α 40 0)), some (.int (J (fl : Int))), some (.int (J (fr : Int))), some (.int (J (c : Int))), some (.int (J z4)), o5] [] h 0 0 (UQ g α ν (some (.int (J (mx (Rc (nsl O s) (ftR O s b) rm fr fl ((nC O).toNat - fr)))))) (fun X' => ∀ kk, kk ≠ 78 → X' kk = X kk)) := by
                intro n46
                induction n46 with
                | zero => intro f z4 o5 h X4 hm; exact absurd hm (Nat.not_lt_zero _)
                | succ n46 ih46 =>
                  intro f z4 o5 h X4 hm46 hf e4 hT hI
                  subst e4
                  have hM4 : RM O X4 := rm_78 hM hI.1
                  have hL4 : LKr O X4 s b rm := LKr_cg hL hI.1
                  have q04 := rm_nC hM4
                  have l14 := hL4.1
                  refine ev_ild4 48 dX12_mostFrom_46 rfl ?_
                  refine tj_if_lt 112 51 dX12_mostFrom_48 (by decide) rfl (by first | exact TR.rng hT _ _ _ | exact R31_of _ | exact bi_R _ | (constructor <;> omega)) (fun c48 => ?_) (fun c48 => ?_)
                  · skip
                    obtain rfl : f = 0 := by omega
                    have hMPc : MP X4 (Rc (nsl O s) (ftR O s b) rm fr fl (c + 1 - fr)) := by rw [show c + 1 - fr = (c - fr) + 1 by omega]; refine MP_cg hI.2 (fun g _ => ?_); have e := Rm_bot (m := nsl O s) (fit := ftR O s b) (rm := rm) (fr := fr) (fill := fl) (i := c - fr) g; rw [show fr + (c - fr) = c by omega] at e; exact e
                    refine tj_inc3 115 dX12_mostFrom_112 rfl (by decide) rfl ?_
                    refine ev_goto 33 dX12_mostFrom_115 (by decide) ?_
                    exact ih33 (c + 1) _ _ _ _ _ (by omega) (by first | omega | assumption | omega) (by first | omega | assumption | omega) (by first | rfl | omega | (omega)) hT (by first | assumption | (first | exact ⟨hI.1, fun g hg => by rw [hI.2 g (by omega), Nat.sub_self]; by_cases e : g = fl; (rw [if_pos e]; exact ⟨Or.inr rfl, ⟨fun _ => e, fun _ => rfl⟩⟩); (rw [if_neg e]; exact ⟨Or.inl rfl, ⟨fun q => absurd q (by decide), fun q => absurd q e⟩⟩)⟩ | exact ⟨hI.1, hMPc⟩))
                  · skip
                    obtain ⟨f2, rfl⟩ : ∃ f2, f = f2 + 1 := ⟨f - 1, by omega⟩
                    rw [show ((f2 + 1 : Nat) : Int) - 1 = (f2 : Int) by omega]
                    refine tj_iconst 52 dX12_mostFrom_51 rfl ?_
                    refine ev_ist5 54 dX12_mostFrom_52 rfl (by decide) rfl ?_
                    have lp54 : ∀ (n54 : Nat) (k : Nat) (z5 : Int)  (h : AH) (X5 : XM), 5 - k < n54 → (k ≤ nsl O s) → z5 = (k : Int) → TR g α ν X5 h → ((∀ kk, kk ≠ 78 → X5 kk = X kk) ∧ MP X5 (Rn (nsl O s) (ftR O s b) rm (Rc (nsl O s) (ftR O s b) rm fr fl (c - fr)) c f2 k)) → Ev g M_X12_mostFrom 4 54 [some (.ref (α 40 0)), some (.int (J (fl : Int))), some (.int (J (fr : Int))), some (.int (J (c : Int))), some (.int (J (f2 : Int))), some (.int (J z5))] [] h 0 0 (UQ g α ν (some (.int (J (mx (Rc (nsl O s) (ftR O s b) rm fr fl ((nC O).toNat - fr)))))) (fun X' => ∀ kk, kk ≠ 78 → X' kk = X kk)) := by
                      intro n54
                      induction n54 with
                      | zero => intro k z5 h X5 hm; exact absurd hm (Nat.not_lt_zero _)
                      | succ n54 ih54 =>
                        intro k z5 h X5 hm54 hk5 e5 hT hI
                        subst e5
                        have hM5 : RM O X5 := rm_78 hM hI.1
                        have hL5 : LKr O X5 s b rm := LKr_cg hL hI.1
                        have q05 := rm_nC hM5
                        have l15 := hL5.1
                        have hself := (hI.2 f2 (by omega)).2.trans Rn_self
                        have h01 := (hI.2 f2 (by omega)).1
                        refine ev_ild5 56 dX12_mostFrom_54 rfl ?_
                        refine ev_ald0 57 dX12_mostFrom_56 rfl ?_
                        refine ev_getfield 60 14 35 fl_X12_271_14 (tr40 hT) rfl dX12_mostFrom_57 rfl ?_
                        refine tj_icmp_ge 106 63 dX12_mostFrom_60 (by decide) rfl (by first | exact TR.rng hT _ _ _ | exact R31_of _ | exact bi_R _ | (constructor <;> omega)) (by first | exact TR.rng hT _ _ _ | exact R31_of _ | exact bi_R _ | (constructor <;> omega)) (fun c60 => ?_) (fun c60 => ?_)
                        · skip
                          have hMPf : MP X5 (Rm (nsl O s) (ftR O s b) rm (Rc (nsl O s) (ftR O s b) rm fr fl (c - fr)) c f2) := MP_cg hI.2 (fun g _ => Rn_m (by omega) g)
                          refine tj_inc4 109 dX12_mostFrom_106 rfl (by decide) rfl ?_
                          refine ev_goto 46 dX12_mostFrom_109 (by decide) ?_
                          exact ih46 (f2) _ _ _ _ (by omega) (by first | omega | assumption | omega) (by first | rfl | omega | (omega)) hT (by first | assumption | (first | exact ⟨hI.1, MP_cg hI.2 (fun g _ => Rm_top hRc g)⟩ | exact ⟨hI.1, hMPf⟩))
                        · skip
                          refine ev_ald0 64 dX12_mostFrom_63 rfl ?_
                          refine ev_getfield 67 14 38 fl_X12_85_14 (tr40 hT) rfl dX12_mostFrom_64 rfl ?_
                          refine ev_ild4 69 dX12_mostFrom_67 rfl ?_
                          refine tv_zald 70 (tr78 hT) (f2) (by omega) (by omega) (by omega) dX12_mostFrom_69 rfl ?_
                          refine tj_if_eq 106 73 dX12_mostFrom_70 (by decide) rfl (by first | exact TR.rng hT _ _ _ | exact R31_of _ | exact bi_R _ | (constructor <;> omega)) (fun c70 => ?_) (fun c70 => ?_)
                          · skip
                            have hMPf : MP X5 (Rm (nsl O s) (ftR O s b) rm (Rc (nsl O s) (ftR O s b) rm fr fl (c - fr)) c f2) := MP_cg hI.2 (fun g _ => Rn_no (fun q => by have := hself.mpr q; omega) g)
                            refine tj_inc4 109 dX12_mostFrom_106 rfl (by decide) rfl ?_
                            refine ev_goto 46 dX12_mostFrom_109 (by decide) ?_
                            exact ih46 (f2) _ _ _ _ (by omega) (by first | omega | assumption | omega) (by first | rfl | omega | (omega)) hT (by first | assumption | (first | exact ⟨hI.1, MP_cg hI.2 (fun g _ => Rm_top hRc g)⟩ | exact ⟨hI.1, hMPf⟩))
                          · skip
                            have hR2 : Rc (nsl O s) (ftR O s b) rm fr fl (c - fr) f2 := hself.mp (by omega)
                            have hkk : k < nsl O s := by omega
                            have hcc : (c : Int) < nC O := by omega
                            refine ev_ald0 74 dX12_mostFrom_73 rfl ?_
                            refine ev_ild4 76 dX12_mostFrom_74 rfl ?_
                            refine ev_ild3 77 dX12_mostFrom_76 rfl ?_
                            refine ev_ild5 79 dX12_mostFrom_77 rfl ?_
                            refine tc_V3 82 14 dX12_mostFrom_79 lkv_X12_280 (tr40 hT) rfl rfl (by first | decide | omega) (Nat.le_of_ble_eq_true rfl) (c_X12_canGive hT hO hM5 hs hL5 hcc (by omega) hkk (hr k hkk)) ?_
                            refine tb_if_eq 100 85 dX12_mostFrom_82 (by decide) rfl (fun c82 => ?_) (fun c82 => ?_)
                            · skip
                              have hcg : ¬ (ftR O s b c k = true ∧ (dg f2 k : Int) < rm k) := fun q => by rw [q.1, decide_eq_true q.2] at c82; cases c82
                              refine tj_inc5 103 dX12_mostFrom_100 rfl (by decide) rfl ?_
                              refine ev_goto 54 dX12_mostFrom_103 (by decide) ?_
                              exact ih54 (k + 1) _ _ _ (by omega) (by first | omega | assumption | omega) (by first | rfl | omega | (omega)) hT (by first | assumption | (first | exact ⟨hI.1, MP_cg hI.2 (fun g _ => Rn_0 g)⟩ | exact ⟨hI.1, MP_cg hI.2 (fun g _ => Rn_n hcg g)⟩ | exact hI6))
                            · skip
                              have hcg := (Bool.and_eq_true _ _).mp c82
                              have hdk := of_decide_eq_true hcg.2
                              have hrk := hr k hkk
                              have hup := (dg_up (show f2 < 256 by omega) (show k < 4 by omega) (by omega)).1
                              have hup2 : (up1 f2 k : Int) = f2 + ((1 <<< (2 * k) : Nat) : Int) := by unfold up1; omega
                              refine ev_ald0 86 dX12_mostFrom_85 rfl ?_
                              refine ev_getfield 89 14 38 fl_X12_85_14 (tr40 hT) rfl dX12_mostFrom_86 rfl ?_
                              refine ev_ild4 91 dX12_mostFrom_89 rfl ?_
                              refine tj_iconst 92 dX12_mostFrom_91 rfl ?_
                              refine tj_iconst 93 dX12_mostFrom_92 rfl ?_
                              refine ev_ild5 95 dX12_mostFrom_93 rfl ?_
                              refine tj_imul 96 dX12_mostFrom_95 rfl ?_
                              refine tj_ishl 97 dX12_mostFrom_96 1 (2 * k) rfl (by omega) (by omega) rfl ?_
                              refine tj_iadd 98 dX12_mostFrom_97 rfl ?_
                              refine tj_iconst 99 dX12_mostFrom_98 rfl ?_
                              refine tv_zast 100 hT (tv78 hT) (fun _ => rfl) (up1 f2 k) (by omega) (by omega) (by omega) (by first | omega | exact bi_01 _) dX12_mostFrom_99 rfl (fun h hT => ?_)
                              obtain ⟨X6, hX6⟩ : ∃ Z, Z = xs X5 78 0 (up1 f2 k) 1 := ⟨_, rfl⟩
                              rw [← hX6] at hT
                              have hI6 : (∀ kk, kk ≠ 78 → X6 kk = X kk) ∧ MP X6 (Rn (nsl O s) (ftR O s b) rm (Rc (nsl O s) (ftR O s b) rm fr fl (c - fr)) c f2 (k + 1)) := ⟨fun kk q => by rw [hX6, xs_nk q]; exact hI.1 kk q, by rw [hX6]; exact MP_set hI.2 (fun g _ => Rn_y hkk hR2 hcg.1 hdk g)⟩
                              refine tj_inc5 103 dX12_mostFrom_100 rfl (by decide) rfl ?_
                              refine ev_goto 54 dX12_mostFrom_103 (by decide) ?_
                              exact ih54 (k + 1) _ _ _ (by omega) (by first | omega | assumption | omega) (by first | rfl | omega | (omega)) hT (by first | assumption | (first | exact ⟨hI.1, MP_cg hI.2 (fun g _ => Rn_0 g)⟩ | exact ⟨hI.1, MP_cg hI.2 (fun g _ => Rn_n hcg g)⟩ | exact hI6))
                    exact lp54 _ (0) _ _ _ (Nat.lt_succ_self _) (by first | omega | assumption | omega) (by first | rfl | omega | (omega)) hT (by first | assumption | (first | exact ⟨hI.1, MP_cg hI.2 (fun g _ => Rn_0 g)⟩ | exact ⟨hI.1, MP_cg hI.2 (fun g _ => Rn_n hcg g)⟩ | exact hI6))
              exact lp46 _ (256) _ _ _ _ (Nat.lt_succ_self _) (by first | omega | assumption | omega) (by first | rfl | omega | (omega)) hT (by first | assumption | (first | exact ⟨hI.1, MP_cg hI.2 (fun g _ => Rm_top hRc g)⟩ | exact ⟨hI.1, hMPf⟩))
        exact lp33 _ (fr) _ _ _ _ _ (Nat.lt_succ_self _) (by first | omega | assumption | omega) (by first | omega | assumption | omega) (by first | rfl | omega | (omega)) hT (by first | assumption | (first | exact ⟨hI.1, fun g hg => by rw [hI.2 g (by omega), Nat.sub_self]; by_cases e : g = fl; (rw [if_pos e]; exact ⟨Or.inr rfl, ⟨fun _ => e, fun _ => rfl⟩⟩); (rw [if_neg e]; exact ⟨Or.inl rfl, ⟨fun q => absurd q (by decide), fun q => absurd q e⟩⟩)⟩ | exact ⟨hI.1, hMPc⟩))
      · skip
        refine ev_ald0 10 dX12_mostFrom_9 rfl ?_
        refine ev_getfield 13 14 38 fl_X12_85_14 (tr40 hT) rfl dX12_mostFrom_10 rfl ?_
        refine ev_ild3 14 dX12_mostFrom_13 rfl ?_
        refine ev_ild3 15 dX12_mostFrom_14 rfl ?_
        refine ev_ild1 16 dX12_mostFrom_15 rfl ?_
        refine tj_icmp_ne 23 19 dX12_mostFrom_16 (by decide) rfl (by first | exact TR.rng hT _ _ _ | exact R31_of _ | exact bi_R _ | (constructor <;> omega)) (by first | exact TR.rng hT _ _ _ | exact R31_of _ | exact bi_R _ | (constructor <;> omega)) (fun c16 => ?_) (fun c16 => ?_)
        · skip
          refine tj_iconst 24 dX12_mostFrom_23 rfl ?_
          refine tv_zast 25 hT (tv78 hT) (fun _ => rfl) (f) (by omega) (by omega) (by omega) (by first | omega | exact bi_01 _) dX12_mostFrom_24 rfl (fun h hT => ?_)
          refine tj_inc3 28 dX12_mostFrom_25 rfl (by decide) rfl ?_
          refine ev_goto 2 dX12_mostFrom_28 (by decide) ?_
          exact ih2 (f + 1) _ _ _ _ _ (by omega) (by first | omega | assumption | omega) (by first | rfl | omega | (omega)) hT (by first | assumption | (first | exact ⟨fun _ _ => rfl, fun g hg => absurd hg (Nat.not_lt_zero g)⟩ | exact ⟨fun kk q => by rw [xs_nk q]; exact hI.1 kk q, fun g hg => by rw [xs_at]; by_cases e : g = f; (rw [if_pos e, e]; first | rw [if_pos (by omega)] | rw [if_neg (by omega)]); (rw [if_neg e]; exact hI.2 g (by omega))⟩))
        · skip
          refine tj_iconst 20 dX12_mostFrom_19 rfl ?_
          refine ev_goto 24 dX12_mostFrom_20 (by decide) ?_
          refine tv_zast 25 hT (tv78 hT) (fun _ => rfl) (f) (by omega) (by omega) (by omega) (by first | omega | exact bi_01 _) dX12_mostFrom_24 rfl (fun h hT => ?_)
          refine tj_inc3 28 dX12_mostFrom_25 rfl (by decide) rfl ?_
          refine ev_goto 2 dX12_mostFrom_28 (by decide) ?_
          exact ih2 (f + 1) _ _ _ _ _ (by omega) (by first | omega | assumption | omega) (by first | rfl | omega | (omega)) hT (by first | assumption | (first | exact ⟨fun _ _ => rfl, fun g hg => absurd hg (Nat.not_lt_zero g)⟩ | exact ⟨fun kk q => by rw [xs_nk q]; exact hI.1 kk q, fun g hg => by rw [xs_at]; by_cases e : g = f; (rw [if_pos e, e]; first | rw [if_pos (by omega)] | rw [if_neg (by omega)]); (rw [if_neg e]; exact hI.2 g (by omega))⟩))
  exact lp2 _ (0) _ _ _ _ _ (Nat.lt_succ_self _) (by first | omega | assumption | omega) (by first | rfl | omega | (omega)) hT (by first | assumption | (first | exact ⟨fun _ _ => rfl, fun g hg => absurd hg (Nat.not_lt_zero g)⟩ | exact ⟨fun kk q => by rw [xs_nk q]; exact hI.1 kk q, fun g hg => by rw [xs_at]; by_cases e : g = f; (rw [if_pos e, e]; first | rw [if_pos (by omega)] | rw [if_neg (by omega)]); (rw [if_neg e]; exact hI.2 g (by omega))⟩))
