/-! THE REFERENCE: the terms to a course -/
theorem bitsE_or {z m : Int} {f f2 f3 : Nat → Int} (h : bitsE z f) (h2 : bitsE m f2) (h3 : ∀ c, c < 20 → (f3 c ≠ 0 ↔ f c ≠ 0 ∨ f2 c ≠ 0)) : bitsE ((z.toNat ||| m.toNat : Nat) : Int) f3 := by
  obtain ⟨a1, a2, a3⟩ := h
  obtain ⟨b1, b2, b3⟩ := h2
  have ho := Nat.or_lt_two_pow (show z.toNat < 2 ^ 20 by omega) (show m.toNat < 2 ^ 20 by omega)
  refine ⟨by omega, by omega, fun j hj => ?_⟩
  rw [Int.toNat_natCast, Nat.testBit_or, a3 j hj, b3 j hj]
  have := h3 j hj
  by_cases e : f j = 0 <;> by_cases e2 : f2 j = 0 <;> simp [e, e2] at this ⊢ <;> simp [this]
theorem bitsE_0 {f : Nat → Int} (h : ∀ c, c < 20 → f c = 0) : bitsE 0 f := ⟨by omega, by omega, fun c hc => by rw [h c hc]; simp⟩
/-- what comes new in a term, of the courses below c -/
def mB (O : XM) (t : Nat) : Nat → Int
  | 0 => 0
  | c + 1 => (((mB O t c).toNat ||| (if nfS O t c = 0 ∧ nfS O (t + 1) c ≠ 0 then 1 <<< c else 0) : Nat) : Int)
def zB (O : XM) : Nat → Int
  | 0 => 0
  | t + 1 => (((zB O t).toNat ||| (mB O t (nC O).toNat).toNat : Nat) : Int)
theorem mB_1 {O : XM} {t c : Nat} (h1 : nfS O t c = 0) (h2 : nfS O (t + 1) c ≠ 0) : (((mB O t c).toNat ||| 1 <<< c : Nat) : Int) = mB O t (c + 1) := by rw [mB, if_pos ⟨h1, h2⟩]
theorem mB_0 {O : XM} {t c : Nat} (h : ¬ (nfS O t c = 0 ∧ nfS O (t + 1) c ≠ 0)) : (((mB O t c).toNat ||| 0 : Nat) : Int) = mB O t (c + 1) := by rw [mB, if_neg h]
theorem mB_b (O : XM) (t : Nat) : ∀ c, c ≤ 20 → bitsE (mB O t c) (fun j => if j < c ∧ nfS O t j = 0 ∧ nfS O (t + 1) j ≠ 0 then 1 else 0)
  | 0, _ => bitsE_0 (fun c _ => if_neg (fun z => absurd z.1 (Nat.not_lt_zero _)))
  | c + 1, hc => by
    have ih := mB_b O t c (by omega)
    by_cases h : nfS O t c = 0 ∧ nfS O (t + 1) c ≠ 0
    · rw [mB, if_pos h]
      refine bitsE_set ih (by omega) (by rw [if_pos ⟨Nat.lt_succ_self c, h⟩]; decide) (fun j hj => ?_)
      by_cases e : j < c
      · simp [e, show j < c + 1 by omega]
      · simp [e, show ¬ j < c + 1 by omega]
    · rw [mB, if_neg h]
      have k := bitsE_or ih (bitsE_0 (f := fun _ => 0) (fun _ _ => rfl)) (f3 := fun j => if j < c + 1 ∧ nfS O t j = 0 ∧ nfS O (t + 1) j ≠ 0 then 1 else 0) (fun j hj => ?_)
      · exact k
      · by_cases e : j = c
        · subst e; rw [if_neg (fun z => h z.2), if_neg (fun z => h z.2)]; simp
        · by_cases e2 : j < c
          · simp [e2, show j < c + 1 by omega]
          · simp [e2, show ¬ j < c + 1 by omega]
theorem zB_b {O : XM} (hO : WO O) : ∀ t, bitsE (zB O t) (nfS O t)
  | 0 => bitsE_0 (fun _ _ => rfl)
  | t + 1 => by
    have q := wo_nC hO
    refine bitsE_or (zB_b hO t) (mB_b O t (nC O).toNat (by omega)) (fun c hc => ?_)
    constructor
    · intro h
      by_cases e : nfS O t c = 0
      · right
        have hlt : c < (nC O).toNat := Classical.byContradiction fun z => h (nfS_far (by omega) _)
        rw [if_pos ⟨hlt, e, h⟩]; decide
      · exact Or.inl e
    · intro h
      rcases h with h | h
      · exact nfS_m h
      · by_cases e : c < (nC O).toNat ∧ nfS O t c = 0 ∧ nfS O (t + 1) c ≠ 0
        · exact e.2.2
        · rw [if_neg e] at h; exact absurd rfl h
theorem nfS_1 {O : XM} {t c : Nat} (hc : (c : Int) < nC O) (h : mayN O (nfS O t) c = true) : nfS O (t + 1) c ≠ 0 := by
  show (if _ then (1 : Int) else if _ then 1 else 0) ≠ 0
  split
  · decide
  · rw [if_pos ⟨hc, h⟩]; decide
theorem nfS_2 {O : XM} {t c : Nat} (h0 : nfS O t c = 0) (h : mayN O (nfS O t) c = false) : nfS O (t + 1) c = 0 := by
  show (if _ then (1 : Int) else if _ then 1 else 0) = 0
  rw [if_neg (fun z => z h0), if_neg (fun z => by rw [h] at z; cases z.2)]
theorem tt_R (O : XM) (c : Nat) : ∀ n, -1 ≤ tt O c n ∧ tt O c n ≤ n
  | 0 => ⟨by show (-1 : Int) ≤ -1; omega, by show (-1 : Int) ≤ ((0 : Nat) : Int); omega⟩
  | n + 1 => by
    have ih := tt_R O c n
    show -1 ≤ (if _ then _ else if _ then _ else _) ∧ (if _ then _ else if _ then _ else _) ≤ ((n + 1 : Nat) : Int)
    have z0 : (0 : Int) ≤ ((n + 1 : Nat) : Int) := Int.natCast_nonneg _
    split
    · exact ⟨ih.1, Int.le_trans ih.2 (Int.ofNat_le.mpr (Nat.le_succ n))⟩
    · split
      · exact ⟨Int.le_trans (by decide) z0, Int.le_refl _⟩
      · exact ⟨by decide, Int.le_trans (by decide) z0⟩
set_option maxRecDepth 100000 in
set_option maxHeartbeats 4000000 in
theorem c_X12_mayTake_n {g : Gt} {α : AL} {ν : Nat → Nat → Bool} {X : XM} {h : AH} (hT : TR g α ν X h) {O : XM} (hO : WO O) (hM : RM O X) {nf : Nat → Int} (hz : bitsE (X 40 0 29) nf) {c : Nat} (hc : (c : Int) < nC O) : Pr g M_X12_mayTake 15 [.ref (α 40 0), .int (J (-1)), .int (J (c : Int))] h (some (.int (J (bi (mayN O nf c))))) := by
  refine pr_of rfl rfl (ls := [some (.ref (α 40 0)), some (.int (J (-1))), some (.int (J (c : Int)))]) rfl (Nat.le_of_ble_eq_true rfl) ?_
  show Ev g M_X12_mayTake 15 0 [some (.ref (α 40 0)), some (.int (J (-1))), some (.int (J (c : Int)))] [] h 0 0 (PQ (some (.int (J (bi (mayN O nf c))))) h)
  have q0 := rm_nC hM
  have q1 := wo_nC hO
  have q2 := rm_nS hM
  have q3 := wo_nS hO
  have q4 := rm_req hM c hc
  have q5 := wo_req hO c hc
  have q6 := wo_nF hO
  refine ev_ald0 1 dX12_mayTake_0 rfl ?_
  refine ev_getfield 4 14 7 fl_X12_19_14 (tr40 hT) rfl dX12_mayTake_1 rfl ?_
  refine ev_ild2 5 dX12_mayTake_4 rfl ?_
  refine tv_iald 6 (tr47 hT) (c) (by omega) (by omega) (by omega) dX12_mayTake_5 rfl ?_
  refine tj_iconst 7 dX12_mayTake_6 rfl ?_
  refine tj_icmp_eq 24 10 dX12_mayTake_7 (by decide) rfl (by first | exact TR.rng hT _ _ _ | exact R31_of _ | exact bi_R _ | (constructor <;> omega)) (by first | exact TR.rng hT _ _ _ | exact R31_of _ | exact bi_R _ | (constructor <;> omega)) (fun c7 => ?_) (fun c7 => ?_)
  · skip
    refine tj_iconst 25 dX12_mayTake_24 rfl ?_
    refine ev_goto 29 dX12_mayTake_25 (by decide) ?_
    exact tz_ret (by first | rfl | omega | exact bi_dt (by omega) | exact bi_df (by omega) | (unfold mayN; rw [← q4]; first | (rw [decide_eq_true (by omega)]; rfl) | (rw [decide_eq_false (by omega)]; show _ = bi (holF O (nbF nf) ntF (neF O nf) (X 47 0 c).toNat); rw [c21]; rfl))) rfl dX12_mayTake_29
  · skip
    refine ev_ald0 11 dX12_mayTake_10 rfl ?_
    refine ev_ald0 12 dX12_mayTake_11 rfl ?_
    refine ev_getfield 15 14 7 fl_X12_19_14 (tr40 hT) rfl dX12_mayTake_12 rfl ?_
    refine ev_ild2 16 dX12_mayTake_15 rfl ?_
    refine tv_iald 17 (tr47 hT) (c) (by omega) (by omega) (by omega) dX12_mayTake_16 rfl ?_
    refine ev_ild1 18 dX12_mayTake_17 rfl ?_
    refine tc_V2 21 14 dX12_mayTake_18 lkv_X12_130 (tr40 hT) rfl rfl (by first | decide | omega) (Nat.le_of_ble_eq_true rfl) (c_X12_holdsNow_n hT hO hM hz (X 47 0 c) (by omega) (by omega) 14 (by have := wo_dep hO (X 47 0 c).toNat (by omega); omega)) ?_
    refine tb_if_eq 28 24 dX12_mayTake_21 (by decide) rfl (fun c21 => ?_) (fun c21 => ?_)
    · skip
      refine tj_iconst 29 dX12_mayTake_28 rfl ?_
      exact tz_ret (by first | rfl | omega | exact bi_dt (by omega) | exact bi_df (by omega) | (unfold mayN; rw [← q4]; first | (rw [decide_eq_true (by omega)]; rfl) | (rw [decide_eq_false (by omega)]; show _ = bi (holF O (nbF nf) ntF (neF O nf) (X 47 0 c).toNat); rw [c21]; rfl))) rfl dX12_mayTake_29
    · skip
      refine tj_iconst 25 dX12_mayTake_24 rfl ?_
      refine ev_goto 29 dX12_mayTake_25 (by decide) ?_
      exact tz_ret (by first | rfl | omega | exact bi_dt (by omega) | exact bi_df (by omega) | (unfold mayN; rw [← q4]; first | (rw [decide_eq_true (by omega)]; rfl) | (rw [decide_eq_false (by omega)]; show _ = bi (holF O (nbF nf) ntF (neF O nf) (X 47 0 c).toNat); rw [c21]; rfl))) rfl dX12_mayTake_29
set_option maxRecDepth 100000 in
set_option maxHeartbeats 4000000 in
theorem c_X12_termsUntil {g : Gt} {α : AL} {ν : Nat → Nat → Bool} {X : XM} {h : AH} (hT : TR g α ν X h) {O : XM} (hO : WO O) (hM : RM O X) {c : Nat} (hc : (c : Int) < nC O) : Mu g α ν M_X12_termsUntil 17 [.ref (α 40 0), .int (J (c : Int))] h (some (.int (J (tt O c (nC O).toNat)))) (fun X' => ∃ z, X' = xs X 40 0 29 z) := by
  refine mu_of rfl rfl (ls := [some (.ref (α 40 0)), some (.int (J (c : Int))), none, none, none]) rfl (Nat.le_of_ble_eq_true rfl) ?_
  show Ev g M_X12_termsUntil 17 0 [some (.ref (α 40 0)), some (.int (J (c : Int))), none, none, none] [] h 0 0 (UQ g α ν (some (.int (J (tt O c (nC O).toNat)))) (fun X' => ∃ z, X' = xs X 40 0 29 z))
  have q0 := rm_nC hM
  have q1 := wo_nC hO
  have q2 := rm_nS hM
  have q3 := wo_nS hO
  refine ev_ald0 1 dX12_termsUntil_0 rfl ?_
  refine tj_iconst 2 dX12_termsUntil_1 rfl ?_
  refine tv_puti 5 29 .int fl_X12_120_14 fp_14_29 hT (tv40 hT) (fun _ => rfl) rfl (Nat.le_of_ble_eq_true rfl) rfl rfl (by first | exact TR.rng hT _ _ _ | exact R31_of _ | exact bi_R _ | (constructor <;> omega)) dX12_termsUntil_2 rfl (fun h hT => ?_)
  refine tj_iconst 6 dX12_termsUntil_5 rfl ?_
  refine ev_ist2 7 dX12_termsUntil_6 rfl (by decide) rfl ?_
  have lp7 : ∀ (n7 : Nat) (t : Nat) (z2 : Int) (o3 o4 : Option Value) (h : AH) (X2 : XM), 21 - t < n7 → ((t : Int) ≤ nC O) → (tt O c t = -1) → z2 = (t + 1 : Int) → TR g α ν X2 h → X2 = xs X 40 0 29 (zB O t) → Ev g M_X12_termsUntil 17 7 [some (.ref (α 40 0)), some (.int (J (c : Int))), some (.int (J z2)), o3, o4] [] h 0 0 (UQ g α ν (some (.int (J (tt O c (nC O).toNat)))) (fun X' => ∃ z, X' = xs X 40 0 29 z)) := by
    intro n7
    induction n7 with
    | zero => intro t z2 o3 o4 h X2 hm; exact absurd hm (Nat.not_lt_zero _)
    | succ n7 ih7 =>
      intro t z2 o3 o4 h X2 hm7 ht htt e2 hT hI
      subst e2
      have hM0 := hM
      have hM : RM O X2 := by rw [hI]; exact rm_sc hM0 (by decide) _
      have q0 := rm_nC hM
      have e29 : X2 40 0 29 = zB O t := by rw [hI, xs_at, if_pos rfl]
      have hz := zB_b hO t
      have hz2 : bitsE (X2 40 0 29) (nfS O t) := by rw [e29]; exact hz
      have hz0 := hz.1
      refine ev_ild2 8 dX12_termsUntil_7 rfl ?_
      refine ev_ald0 9 dX12_termsUntil_8 rfl ?_
      refine ev_getfield 12 14 3 fl_X12_93_14 (tr40 hT) rfl dX12_termsUntil_9 rfl ?_
      refine tj_icmp_gt 97 15 dX12_termsUntil_12 (by decide) rfl (by first | exact TR.rng hT _ _ _ | exact R31_of _ | exact bi_R _ | (constructor <;> omega)) (by first | exact TR.rng hT _ _ _ | exact R31_of _ | exact bi_R _ | (constructor <;> omega)) (fun c12 => ?_) (fun c12 => ?_)
      · skip
        refine tj_iconst 98 dX12_termsUntil_97 rfl ?_
        exact ev_ireturn (uq_i (by first | rfl | omega | exact bi_dt (by omega) | exact bi_df (by omega) | (rw [← htt, show t = (nC O).toNat by omega])) hT (by first | exact ⟨_, hI⟩ | exact ⟨_, hI3⟩)) rfl dX12_termsUntil_98
      · skip
        refine tj_iconst 16 dX12_termsUntil_15 rfl ?_
        refine ev_ist3 17 dX12_termsUntil_16 rfl (by decide) rfl ?_
        refine tj_iconst 18 dX12_termsUntil_17 rfl ?_
        refine ev_ist4 20 dX12_termsUntil_18 rfl (by decide) rfl ?_
        have lp20 : ∀ (n20 : Nat) (j : Nat) (z3 : Int) (z4 : Int) , 21 - j < n20 → ((j : Int) ≤ nC O) → z3 = mB O t j → z4 = (j : Int) → Ev g M_X12_termsUntil 17 20 [some (.ref (α 40 0)), some (.int (J (c : Int))), some (.int (J (t + 1 : Int))), some (.int (J z3)), some (.int (J z4))] [] h 0 0 (UQ g α ν (some (.int (J (tt O c (nC O).toNat)))) (fun X' => ∃ z, X' = xs X 40 0 29 z)) := by
          intro n20
          induction n20 with
          | zero => intro j z3 z4 hm; exact absurd hm (Nat.not_lt_zero _)
          | succ n20 ih20 =>
            intro j z3 z4 hm20 hj e3 e4
            subst e3
            subst e4
            have hm0 := (mB_b O t j (by omega)).1
            refine ev_ild4 22 dX12_termsUntil_20 rfl ?_
            refine ev_ald0 23 dX12_termsUntil_22 rfl ?_
            refine ev_getfield 26 14 3 fl_X12_93_14 (tr40 hT) rfl dX12_termsUntil_23 rfl ?_
            refine tj_icmp_ge 68 29 dX12_termsUntil_26 (by decide) rfl (by first | exact TR.rng hT _ _ _ | exact R31_of _ | exact bi_R _ | (constructor <;> omega)) (by first | exact TR.rng hT _ _ _ | exact R31_of _ | exact bi_R _ | (constructor <;> omega)) (fun c26 => ?_) (fun c26 => ?_)
            · skip
              obtain rfl : j = (nC O).toNat := by omega
              refine ev_ald0 69 dX12_termsUntil_68 rfl ?_
              refine ev_dup 70 dX12_termsUntil_69 rfl rfl ?_
              refine ev_getfield 73 14 29 fl_X12_120_14 (tr40 hT) rfl dX12_termsUntil_70 rfl ?_
              refine ev_ild3 74 dX12_termsUntil_73 rfl ?_
              refine tj_ior 75 dX12_termsUntil_74 (zB O t).toNat (mB O t (nC O).toNat).toNat (by omega) (by omega) rfl ?_
              rw [show (((zB O t).toNat ||| (mB O t (nC O).toNat).toNat : Nat) : Int) = zB O (t + 1) from rfl]
              have hz9 := zB_b hO (t + 1)
              have hz8 := hz9.1
              have hz7 := hz9.2.1
              refine tv_puti 78 29 .int fl_X12_120_14 fp_14_29 hT (tv40 hT) (fun _ => rfl) rfl (Nat.le_of_ble_eq_true rfl) rfl rfl (by first | exact TR.rng hT _ _ _ | exact R31_of _ | exact bi_R _ | (constructor <;> omega)) dX12_termsUntil_75 rfl (fun h hT => ?_)
              obtain ⟨X3, hX3⟩ : ∃ Z, Z = xs X2 40 0 29 (zB O (t + 1)) := ⟨_, rfl⟩
              rw [← hX3] at hT
              have hI3 : X3 = xs X 40 0 29 (zB O (t + 1)) := by rw [hX3, hI]; exact xs_twice _ _ _ _ _ _
              have hz3 : bitsE (X3 40 0 29) (nfS O (t + 1)) := by rw [hX3, xs_at, if_pos rfl]; exact zB_b hO (t + 1)
              refine ev_ald0 79 dX12_termsUntil_78 rfl ?_
              refine ev_getfield 82 14 29 fl_X12_120_14 (tr40 hT) rfl dX12_termsUntil_79 rfl ?_
              refine ev_ild1 83 dX12_termsUntil_82 rfl ?_
              refine tc_S2 86 dX12_termsUntil_83 lks_X12_106 rfl (by first | decide | omega) (Nat.le_of_ble_eq_true rfl) (i_has hz3 (by omega)) ?_
              refine tb_if_eq 91 89 dX12_termsUntil_86 (by decide) rfl (fun c86 => ?_) (fun c86 => ?_)
              · skip
                have c86z : nfS O (t + 1) c = 0 := by simpa using c86
                refine tj_inc2 94 dX12_termsUntil_91 rfl (by decide) rfl ?_
                refine ev_goto 7 dX12_termsUntil_94 (by decide) ?_
                exact ih7 (t + 1) _ _ _ _ _ (by omega) (by first | omega | assumption | first | rfl | exact tt_miss htt c86z) (by first | omega | assumption | first | rfl | exact tt_miss htt c86z) (by first | rfl | omega | (omega)) hT (by first | assumption | (first | rfl | exact hI3))
              · skip
                have c86z : nfS O (t + 1) c ≠ 0 := of_decide_eq_true c86
                refine ev_ild2 90 dX12_termsUntil_89 rfl ?_
                exact ev_ireturn (uq_i (by first | rfl | omega | exact bi_dt (by omega) | exact bi_df (by omega) | (exact (tt_hit htt c86z _ (by omega)).symm)) hT (by first | exact ⟨_, hI⟩ | exact ⟨_, hI3⟩)) rfl dX12_termsUntil_90
            · skip
              refine ev_ild3 30 dX12_termsUntil_29 rfl ?_
              refine ev_ald0 31 dX12_termsUntil_30 rfl ?_
              refine ev_getfield 34 14 29 fl_X12_120_14 (tr40 hT) rfl dX12_termsUntil_31 rfl ?_
              refine ev_ild4 36 dX12_termsUntil_34 rfl ?_
              refine tc_S2 39 dX12_termsUntil_36 lks_X12_106 rfl (by first | decide | omega) (Nat.le_of_ble_eq_true rfl) (i_has hz2 (by omega)) ?_
              refine tb_if_ne 59 42 dX12_termsUntil_39 (by decide) rfl (fun c39 => ?_) (fun c39 => ?_)
              · skip
                refine tj_iconst 60 dX12_termsUntil_59 rfl ?_
                refine tj_ior 61 dX12_termsUntil_60 (mB O t j).toNat 0 (by omega) rfl rfl ?_
                refine ev_ist3 62 dX12_termsUntil_61 rfl (by decide) rfl ?_
                refine tj_inc4 65 dX12_termsUntil_62 rfl (by decide) rfl ?_
                refine ev_goto 20 dX12_termsUntil_65 (by decide) ?_
                exact ih20 (j + 1) _ _ (by omega) (by first | omega | assumption | omega) (by first | rfl | omega | (first | exact mB_1 (by simpa using c39) (nfS_1 (by omega) c49) | exact mB_0 (fun z => absurd (nfS_2 z.1 c49) z.2) | exact mB_0 (fun z => absurd z.1 (by simpa using c39)))) (by first | rfl | omega | (first | exact mB_1 (by simpa using c39) (nfS_1 (by omega) c49) | exact mB_0 (fun z => absurd (nfS_2 z.1 c49) z.2) | exact mB_0 (fun z => absurd z.1 (by simpa using c39))))
              · skip
                refine ev_ald0 43 dX12_termsUntil_42 rfl ?_
                refine tj_iconst 44 dX12_termsUntil_43 rfl ?_
                refine ev_ild4 46 dX12_termsUntil_44 rfl ?_
                refine tc_V2 49 14 dX12_termsUntil_46 lkv_X12_176 (tr40 hT) rfl rfl (by first | decide | omega) (Nat.le_of_ble_eq_true rfl) (c_X12_mayTake_n hT hO hM hz2 (by omega)) ?_
                refine tb_if_eq 59 52 dX12_termsUntil_49 (by decide) rfl (fun c49 => ?_) (fun c49 => ?_)
                · skip
                  refine tj_iconst 60 dX12_termsUntil_59 rfl ?_
                  refine tj_ior 61 dX12_termsUntil_60 (mB O t j).toNat 0 (by omega) rfl rfl ?_
                  refine ev_ist3 62 dX12_termsUntil_61 rfl (by decide) rfl ?_
                  refine tj_inc4 65 dX12_termsUntil_62 rfl (by decide) rfl ?_
                  refine ev_goto 20 dX12_termsUntil_65 (by decide) ?_
                  exact ih20 (j + 1) _ _ (by omega) (by first | omega | assumption | omega) (by first | rfl | omega | (first | exact mB_1 (by simpa using c39) (nfS_1 (by omega) c49) | exact mB_0 (fun z => absurd (nfS_2 z.1 c49) z.2) | exact mB_0 (fun z => absurd z.1 (by simpa using c39)))) (by first | rfl | omega | (first | exact mB_1 (by simpa using c39) (nfS_1 (by omega) c49) | exact mB_0 (fun z => absurd (nfS_2 z.1 c49) z.2) | exact mB_0 (fun z => absurd z.1 (by simpa using c39))))
                · skip
                  refine tj_iconst 53 dX12_termsUntil_52 rfl ?_
                  refine ev_ild4 55 dX12_termsUntil_53 rfl ?_
                  refine tj_ishl 56 dX12_termsUntil_55 1 j rfl rfl (by omega) rfl ?_
                  refine ev_goto 60 dX12_termsUntil_56 (by decide) ?_
                  refine tj_ior 61 dX12_termsUntil_60 (mB O t j).toNat (1 <<< j) (by omega) rfl rfl ?_
                  refine ev_ist3 62 dX12_termsUntil_61 rfl (by decide) rfl ?_
                  refine tj_inc4 65 dX12_termsUntil_62 rfl (by decide) rfl ?_
                  refine ev_goto 20 dX12_termsUntil_65 (by decide) ?_
                  exact ih20 (j + 1) _ _ (by omega) (by first | omega | assumption | omega) (by first | rfl | omega | (first | exact mB_1 (by simpa using c39) (nfS_1 (by omega) c49) | exact mB_0 (fun z => absurd (nfS_2 z.1 c49) z.2) | exact mB_0 (fun z => absurd z.1 (by simpa using c39)))) (by first | rfl | omega | (first | exact mB_1 (by simpa using c39) (nfS_1 (by omega) c49) | exact mB_0 (fun z => absurd (nfS_2 z.1 c49) z.2) | exact mB_0 (fun z => absurd z.1 (by simpa using c39))))
        exact lp20 _ (0) _ _ (Nat.lt_succ_self _) (by first | omega | assumption | omega) (by first | rfl | omega | (first | exact mB_1 (by simpa using c39) (nfS_1 (by omega) c49) | exact mB_0 (fun z => absurd (nfS_2 z.1 c49) z.2) | exact mB_0 (fun z => absurd z.1 (by simpa using c39)))) (by first | rfl | omega | (first | exact mB_1 (by simpa using c39) (nfS_1 (by omega) c49) | exact mB_0 (fun z => absurd (nfS_2 z.1 c49) z.2) | exact mB_0 (fun z => absurd z.1 (by simpa using c39))))
  exact lp7 _ (0) _ _ _ _ _ (Nat.lt_succ_self _) (by first | omega | assumption | first | rfl | exact tt_miss htt c86z) (by first | omega | assumption | first | rfl | exact tt_miss htt c86z) (by first | rfl | omega | (omega)) hT (by first | assumption | (first | rfl | exact hI3))
set_option maxRecDepth 100000 in
set_option maxHeartbeats 4000000 in
theorem c_X12_termsTo_b1 {g : Gt} {α : AL} {ν : Nat → Nat → Bool} {X : XM} {h : AH} (hT : TR g α ν X h) {O : XM} (hO : WO O) (hM : RM O X) {b : Int} (hb : R31 b) (hn : ¬ (0 ≤ b ∧ b < nC O)) : Mu g α ν M_X12_termsTo 27 [.ref (α 40 0), .int (J b)] h (some (.int (J 0))) (fun X' => X' = xs X 40 0 0 1) := by
  refine mu_of rfl rfl (ls := [some (.ref (α 40 0)), some (.int (J b)), none]) rfl (Nat.le_of_ble_eq_true rfl) ?_
  show Ev g M_X12_termsTo 27 0 [some (.ref (α 40 0)), some (.int (J b)), none] [] h 0 0 (UQ g α ν (some (.int (J 0))) (fun X' => X' = xs X 40 0 0 1))
  have q0 := rm_nC hM
  have q1 := wo_nC hO
  have q2 := rm_nS hM
  have q3 := wo_nS hO
  refine ev_ald0 1 dX12_termsTo_0 rfl ?_
  refine ev_ild1 2 dX12_termsTo_1 rfl ?_
  refine tc_V1 5 14 dX12_termsTo_2 lkv_X12_151 (tr40 hT) rfl rfl (by first | decide | omega) (Nat.le_of_ble_eq_true rfl) (isCourse_no hT hO hM hb hn) ?_
  refine tj_if_eq 16 8 dX12_termsTo_5 (by decide) rfl (by first | exact TR.rng hT _ _ _ | exact R31_of _ | exact bi_R _ | (constructor <;> omega)) (fun c5 => ?_) (fun c5 => ?_)
  · skip
    refine tj_iconst 17 dX12_termsTo_16 rfl ?_
    refine ev_ist2 18 dX12_termsTo_17 rfl (by decide) rfl ?_
    refine ev_ald0 19 dX12_termsTo_18 rfl ?_
    refine ev_ald0 20 dX12_termsTo_19 rfl ?_
    refine ev_ild1 21 dX12_termsTo_20 rfl ?_
    refine tc_V1 24 14 dX12_termsTo_21 lkv_X12_151 (tr40 hT) rfl rfl (by first | decide | omega) (Nat.le_of_ble_eq_true rfl) (isCourse_no hT hO hM hb hn) ?_
    refine tj_if_ne 31 27 dX12_termsTo_24 (by decide) rfl (by first | exact TR.rng hT _ _ _ | exact R31_of _ | exact bi_R _ | (constructor <;> omega)) (fun c24 => ?_) (fun c24 => ?_)
    · exact False.elim (by omega)
    · skip
      refine tj_iconst 28 dX12_termsTo_27 rfl ?_
      refine ev_goto 41 dX12_termsTo_28 (by decide) ?_
      refine tm_V1 44 14 dX12_termsTo_41 lkv_X12_144 (tr40 hT) rfl rfl (by first | decide | omega) (Nat.le_of_ble_eq_true rfl) (goes_n hT (by omega)) (fun h X1 hT hP41 => ?_)
      have hM1 := hM
      have hM : RM O X1 := by rw [hP41]; exact rm_th hM1 _
      have q0 := rm_nC hM
      have q2 := rm_nS hM
      refine tj_if_eq 51 47 dX12_termsTo_44 (by decide) rfl (by first | exact TR.rng hT _ _ _ | exact R31_of _ | exact bi_R _ | (constructor <;> omega)) (fun c44 => ?_) (fun c44 => ?_)
      · skip
        refine tj_iconst 52 dX12_termsTo_51 rfl ?_
        exact ev_ireturn (uq_i (by first | rfl | omega | exact bi_dt (by omega) | exact bi_df (by omega) | (skip)) hT (by assumption)) rfl dX12_termsTo_52
      · exact False.elim (by omega)
  · exact False.elim (by omega)
set_option maxRecDepth 100000 in
set_option maxHeartbeats 4000000 in
theorem c_X12_termsTo_x2 {g : Gt} {α : AL} {ν : Nat → Nat → Bool} {X : XM} {h : AH} (hT : TR g α ν X h) {O : XM} (hO : WO O) (hM : RM O X) {c : Nat} (hc : (c : Int) < nC O) (hb : tt O c 20 = -1) : Mu g α ν M_X12_termsTo 27 [.ref (α 40 0), .int (J (c : Int))] h (some (.int (J (0)))) (fun X' => ∃ z, X' = xs (xs X 40 0 29 z) 40 0 0 2) := by
  refine mu_of rfl rfl (ls := [some (.ref (α 40 0)), some (.int (J (c : Int))), none]) rfl (Nat.le_of_ble_eq_true rfl) ?_
  show Ev g M_X12_termsTo 27 0 [some (.ref (α 40 0)), some (.int (J (c : Int))), none] [] h 0 0 (UQ g α ν (some (.int (J (0)))) (fun X' => ∃ z, X' = xs (xs X 40 0 29 z) 40 0 0 2))
  have q0 := rm_nC hM
  have q1 := wo_nC hO
  have q2 := rm_nS hM
  have q3 := wo_nS hO
  rw [tt_20 hO hc] at hb
  have qt := tt_R O c (nC O).toNat
  refine ev_ald0 1 dX12_termsTo_0 rfl ?_
  refine ev_ild1 2 dX12_termsTo_1 rfl ?_
  refine tc_V1 5 14 dX12_termsTo_2 lkv_X12_151 (tr40 hT) rfl rfl (by first | decide | omega) (Nat.le_of_ble_eq_true rfl) (isCourse_ok hT hO hM (by omega)) ?_
  refine tj_if_eq 16 8 dX12_termsTo_5 (by decide) rfl (by first | exact TR.rng hT _ _ _ | exact R31_of _ | exact bi_R _ | (constructor <;> omega)) (fun c5 => ?_) (fun c5 => ?_)
  · exact False.elim (by omega)
  · skip
    refine ev_ald0 9 dX12_termsTo_8 rfl ?_
    refine ev_ild1 10 dX12_termsTo_9 rfl ?_
    refine tm_V1 13 14 dX12_termsTo_10 lkv_X12_239 (tr40 hT) rfl rfl (by first | decide | omega) (Nat.le_of_ble_eq_true rfl) (c_X12_termsUntil hT hO hM (by omega)) (fun h X1 hT hP10 => ?_)
    obtain ⟨z, hz⟩ := hP10
    have hM0 := hM
    have hM : RM O X1 := by rw [hz]; exact rm_sc hM0 (by decide) _
    have q0 := rm_nC hM
    have hz1 := hz
    refine ev_goto 17 dX12_termsTo_13 (by decide) ?_
    refine ev_ist2 18 dX12_termsTo_17 rfl (by decide) rfl ?_
    refine ev_ald0 19 dX12_termsTo_18 rfl ?_
    refine ev_ald0 20 dX12_termsTo_19 rfl ?_
    refine ev_ild1 21 dX12_termsTo_20 rfl ?_
    refine tc_V1 24 14 dX12_termsTo_21 lkv_X12_151 (tr40 hT) rfl rfl (by first | decide | omega) (Nat.le_of_ble_eq_true rfl) (isCourse_ok hT hO hM (by omega)) ?_
    refine tj_if_ne 31 27 dX12_termsTo_24 (by decide) rfl (by first | exact TR.rng hT _ _ _ | exact R31_of _ | exact bi_R _ | (constructor <;> omega)) (fun c24 => ?_) (fun c24 => ?_)
    · skip
      refine ev_ild2 32 dX12_termsTo_31 rfl ?_
      refine tj_iconst 33 dX12_termsTo_32 rfl ?_
      refine tj_icmp_ne 40 36 dX12_termsTo_33 (by decide) rfl (by first | exact TR.rng hT _ _ _ | exact R31_of _ | exact bi_R _ | (constructor <;> omega)) (by first | exact TR.rng hT _ _ _ | exact R31_of _ | exact bi_R _ | (constructor <;> omega)) (fun c33 => ?_) (fun c33 => ?_)
      · exact False.elim (by omega)
      · skip
        refine tj_iconst 37 dX12_termsTo_36 rfl ?_
        refine ev_goto 41 dX12_termsTo_37 (by decide) ?_
        refine tm_V1 44 14 dX12_termsTo_41 lkv_X12_144 (tr40 hT) rfl rfl (by first | decide | omega) (Nat.le_of_ble_eq_true rfl) (goes_n hT (by omega)) (fun h X1 hT hP41 => ?_)
        have hM1 := hM
        have hM : RM O X1 := by rw [hP41]; exact rm_th hM1 _
        have q0 := rm_nC hM
        have q2 := rm_nS hM
        refine tj_if_eq 51 47 dX12_termsTo_44 (by decide) rfl (by first | exact TR.rng hT _ _ _ | exact R31_of _ | exact bi_R _ | (constructor <;> omega)) (fun c44 => ?_) (fun c44 => ?_)
        · skip
          refine tj_iconst 52 dX12_termsTo_51 rfl ?_
          exact ev_ireturn (uq_i (by first | rfl | omega | exact bi_dt (by omega) | exact bi_df (by omega) | (exact (tt_20 hO hc).symm)) hT (by exact ⟨z, by rw [← hz]; assumption⟩)) rfl dX12_termsTo_52
        · exact False.elim (by omega)
    · exact False.elim (by omega)
set_option maxRecDepth 100000 in
set_option maxHeartbeats 4000000 in
theorem c_X12_termsTo_ok {g : Gt} {α : AL} {ν : Nat → Nat → Bool} {X : XM} {h : AH} (hT : TR g α ν X h) {O : XM} (hO : WO O) (hM : RM O X) {c : Nat} (hc : (c : Int) < nC O) (hb : tt O c 20 ≠ -1) : Mu g α ν M_X12_termsTo 27 [.ref (α 40 0), .int (J (c : Int))] h (some (.int (J (tt O c 20)))) (fun X' => ∃ z, X' = xs (xs X 40 0 29 z) 40 0 0 0) := by
  refine mu_of rfl rfl (ls := [some (.ref (α 40 0)), some (.int (J (c : Int))), none]) rfl (Nat.le_of_ble_eq_true rfl) ?_
  show Ev g M_X12_termsTo 27 0 [some (.ref (α 40 0)), some (.int (J (c : Int))), none] [] h 0 0 (UQ g α ν (some (.int (J (tt O c 20)))) (fun X' => ∃ z, X' = xs (xs X 40 0 29 z) 40 0 0 0))
  have q0 := rm_nC hM
  have q1 := wo_nC hO
  have q2 := rm_nS hM
  have q3 := wo_nS hO
  rw [tt_20 hO hc] at hb
  have qt := tt_R O c (nC O).toNat
  refine ev_ald0 1 dX12_termsTo_0 rfl ?_
  refine ev_ild1 2 dX12_termsTo_1 rfl ?_
  refine tc_V1 5 14 dX12_termsTo_2 lkv_X12_151 (tr40 hT) rfl rfl (by first | decide | omega) (Nat.le_of_ble_eq_true rfl) (isCourse_ok hT hO hM (by omega)) ?_
  refine tj_if_eq 16 8 dX12_termsTo_5 (by decide) rfl (by first | exact TR.rng hT _ _ _ | exact R31_of _ | exact bi_R _ | (constructor <;> omega)) (fun c5 => ?_) (fun c5 => ?_)
  · exact False.elim (by omega)
  · skip
    refine ev_ald0 9 dX12_termsTo_8 rfl ?_
    refine ev_ild1 10 dX12_termsTo_9 rfl ?_
    refine tm_V1 13 14 dX12_termsTo_10 lkv_X12_239 (tr40 hT) rfl rfl (by first | decide | omega) (Nat.le_of_ble_eq_true rfl) (c_X12_termsUntil hT hO hM (by omega)) (fun h X1 hT hP10 => ?_)
    obtain ⟨z, hz⟩ := hP10
    have hM0 := hM
    have hM : RM O X1 := by rw [hz]; exact rm_sc hM0 (by decide) _
    have q0 := rm_nC hM
    have hz1 := hz
    refine ev_goto 17 dX12_termsTo_13 (by decide) ?_
    refine ev_ist2 18 dX12_termsTo_17 rfl (by decide) rfl ?_
    refine ev_ald0 19 dX12_termsTo_18 rfl ?_
    refine ev_ald0 20 dX12_termsTo_19 rfl ?_
    refine ev_ild1 21 dX12_termsTo_20 rfl ?_
    refine tc_V1 24 14 dX12_termsTo_21 lkv_X12_151 (tr40 hT) rfl rfl (by first | decide | omega) (Nat.le_of_ble_eq_true rfl) (isCourse_ok hT hO hM (by omega)) ?_
    refine tj_if_ne 31 27 dX12_termsTo_24 (by decide) rfl (by first | exact TR.rng hT _ _ _ | exact R31_of _ | exact bi_R _ | (constructor <;> omega)) (fun c24 => ?_) (fun c24 => ?_)
    · skip
      refine ev_ild2 32 dX12_termsTo_31 rfl ?_
      refine tj_iconst 33 dX12_termsTo_32 rfl ?_
      refine tj_icmp_ne 40 36 dX12_termsTo_33 (by decide) rfl (by first | exact TR.rng hT _ _ _ | exact R31_of _ | exact bi_R _ | (constructor <;> omega)) (by first | exact TR.rng hT _ _ _ | exact R31_of _ | exact bi_R _ | (constructor <;> omega)) (fun c33 => ?_) (fun c33 => ?_)
      · skip
        refine tj_iconst 41 dX12_termsTo_40 rfl ?_
        refine tm_V1 44 14 dX12_termsTo_41 lkv_X12_144 (tr40 hT) rfl rfl (by first | decide | omega) (Nat.le_of_ble_eq_true rfl) (goes_0 hT) (fun h X1 hT hP41 => ?_)
        have hM1 := hM
        have hM : RM O X1 := by rw [hP41]; exact rm_th hM1 _
        have q0 := rm_nC hM
        have q2 := rm_nS hM
        refine tj_if_eq 51 47 dX12_termsTo_44 (by decide) rfl (by first | exact TR.rng hT _ _ _ | exact R31_of _ | exact bi_R _ | (constructor <;> omega)) (fun c44 => ?_) (fun c44 => ?_)
        · exact False.elim (by omega)
        · skip
          refine ev_ild2 48 dX12_termsTo_47 rfl ?_
          refine ev_goto 52 dX12_termsTo_48 (by decide) ?_
          exact ev_ireturn (uq_i (by first | rfl | omega | exact bi_dt (by omega) | exact bi_df (by omega) | (exact (tt_20 hO hc).symm)) hT (by exact ⟨z, by rw [← hz]; assumption⟩)) rfl dX12_termsTo_52
      · exact False.elim (by omega)
    · exact False.elim (by omega)
