/-! THE CLASS: an audit opens -/
/-- whether a course counts for a rule -/
def cdN (X : XM) (r s : Nat) (b : Bool) (c : Nat) : Bool := decide (X 15 r c ≠ 0) && (decide (50 ≤ bbR X s b c) && decide (X 14 r 2 ≤ bbR X s b c))
theorem bts_or {z : Int} {p : Nat → Bool} {m : Nat} (h : bts z p) (hm : m < 4) : bts ((z.toNat ||| 1 <<< m : Nat) : Int) (fun k => p k || decide (k = m)) := by
  have e := or_1 (a := z.toNat) (j := m) (by have := h.1; have := h.2.1; omega) hm
  refine ⟨by omega, by have := e.1; omega, fun k hk => ?_⟩
  rw [Int.toNat_natCast, e.2 k hk, h.2.2 k hk]
theorem bts_cg {z : Int} {p q : Nat → Bool} (h : bts z p) (e : ∀ k, k < 4 → p k = q k) : bts z q := ⟨h.1, h.2.1, fun k hk => by rw [h.2.2 k hk, e k hk]⟩
theorem cdN_far {X : XM} (hO : WO X) {r s c : Nat} {b : Bool} (hs : (s : Int) < nS X) (hc : nC X ≤ (c : Int)) (hc2 : c < 20) : cdN X r s b c = false := by
  have f := wo_far hO s c hs hc hc2
  have g := wo_bsq hO s c hs hc2
  rw [f.2.2] at g
  have g2 : X 8 s c = -1 := by
    rw [g]
    show (if mvd X s c = true then (50 : Int) else -1) = -1
    rw [if_neg (show ¬ mvd X s c = true from fun z => absurd f.2.1 (of_decide_eq_true z))]
  have t : tak X s c = false := decide_eq_false (fun z => z f.1)
  have e : bbR X s b c = -1 := by
    unfold bbR
    rw [t, Bool.and_false, if_neg (by decide), g2]
  unfold cdN
  rw [e, decide_eq_false (show ¬ (50 : Int) ≤ -1 by decide)]
  simp
set_option maxRecDepth 100000 in
set_option maxHeartbeats 4000000 in
theorem c_X0_noteFits {g : Gt} {α : AL} {ν : Nat → Nat → Bool} {X : XM} {h : AH} (hT : TR g α ν X h) {r s m : Nat} {b : Bool} (hr : ν 14 r = true) (hs : ν 4 s = true) (hl : s < 17) (hm : m < 4) (h17 : X 17 0 0 = m) (hf : ∀ c, c < 20 → 0 ≤ X 20 0 c ∧ X 20 0 c < 16) : Mu g α ν M_X0_noteFits 0 [.ref (α 17 0), .ref (α 14 r), .ref (α 4 s), .int (J (bi b))] h (none) (fun X' => (∀ kk, kk ≠ 20 → X' kk = X kk) ∧ ∀ c, c < 20 → X' 20 0 c = if cdN X r s b c = true then (((X 20 0 c).toNat ||| 1 <<< m : Nat) : Int) else X 20 0 c) := by
  refine mu_of rfl rfl (ls := [some (.ref (α 17 0)), some (.ref (α 14 r)), some (.ref (α 4 s)), some (.int (J (bi b))), none, none]) rfl (Nat.le_of_ble_eq_true rfl) ?_
  show Ev g M_X0_noteFits 0 0 [some (.ref (α 17 0)), some (.ref (α 14 r)), some (.ref (α 4 s)), some (.int (J (bi b))), none, none] [] h 0 0 (UQ g α ν (none) (fun X' => (∀ kk, kk ≠ 20 → X' kk = X kk) ∧ ∀ c, c < 20 → X' 20 0 c = if cdN X r s b c = true then (((X 20 0 c).toNat ||| 1 <<< m : Nat) : Int) else X 20 0 c))
  refine tj_iconst 1 dX0_noteFits_0 rfl ?_
  refine ev_ist4 3 dX0_noteFits_1 rfl (by decide) rfl ?_
  have lp3 : ∀ (n3 : Nat) (c : Nat) (z4 : Int) (o5 : Option Value) (h : AH) (X2 : XM), 21 - c < n3 → (c ≤ 20) → z4 = (c : Int) → TR g α ν X2 h → ((∀ kk, kk ≠ 20 → X2 kk = X kk) ∧ (∀ c9, c9 < c → X2 20 0 c9 = if cdN X r s b c9 = true then (((X 20 0 c9).toNat ||| 1 <<< m : Nat) : Int) else X 20 0 c9) ∧ ∀ c9, c ≤ c9 → X2 20 0 c9 = X 20 0 c9) → Ev g M_X0_noteFits 0 3 [some (.ref (α 17 0)), some (.ref (α 14 r)), some (.ref (α 4 s)), some (.int (J (bi b))), some (.int (J z4)), o5] [] h 0 0 (UQ g α ν (none) (fun X' => (∀ kk, kk ≠ 20 → X' kk = X kk) ∧ ∀ c, c < 20 → X' 20 0 c = if cdN X r s b c = true then (((X 20 0 c).toNat ||| 1 <<< m : Nat) : Int) else X 20 0 c)) := by
    intro n3
    induction n3 with
    | zero => intro c z4 o5 h X2 hm; exact absurd hm (Nat.not_lt_zero _)
    | succ n3 ih3 =>
      intro c z4 o5 h X2 hm3 hc e4 hT hI
      subst e4
      obtain ⟨f1, f2, f3⟩ := hI
      have e5 := f1 5 (by decide)
      have e8 := f1 8 (by decide)
      have e14 := f1 14 (by decide)
      have e15 := f1 15 (by decide)
      have e17 : X2 17 0 0 = m := by rw [f1 17 (by decide)]; exact h17
      refine ev_ild4 5 dX0_noteFits_3 rfl ?_
      refine tj_bipush 7 dX0_noteFits_5 (by decide) rfl ?_
      refine tj_icmp_ge 86 10 dX0_noteFits_7 (by decide) rfl (by first | exact TR.rng hT _ _ _ | exact R31_of _ | exact bi_R _ | (constructor <;> omega)) (by first | exact TR.rng hT _ _ _ | exact R31_of _ | exact bi_R _ | (constructor <;> omega)) (fun c7 => ?_) (fun c7 => ?_)
      · skip
        exact ev_vreturn (uq_v hT (by exact ⟨f1, fun c9 h9 => f2 c9 (by omega)⟩)) rfl dX0_noteFits_86
      · skip
        have hfc := hf c (by omega)
        have h20 := f3 c (Nat.le_refl c)
        refine ev_ild3 11 dX0_noteFits_10 rfl ?_
        refine tb_if_eq 29 14 dX0_noteFits_11 (by decide) rfl (fun c11 => ?_) (fun c11 => ?_)
        · skip
          have hbb : bbR X s b c = X2 8 s c := by unfold bbR; rw [c11, Bool.false_and, if_neg (by decide), e8]
          refine ev_ald2 30 dX0_noteFits_29 rfl ?_
          refine ev_getfield 33 10 4 fl_X0_78_10 (tr4 hT (by first | assumption) (by omega)) rfl dX0_noteFits_30 rfl ?_
          refine ev_ild4 35 dX0_noteFits_33 rfl ?_
          refine tv_iald 36 (tr8 hT (by first | assumption) (by omega)) (c) (by omega) (by omega) (by omega) dX0_noteFits_35 rfl ?_
          refine ev_ist5 38 dX0_noteFits_36 rfl (by decide) rfl ?_
          refine ev_ald1 39 dX0_noteFits_38 rfl ?_
          refine ev_getfield 42 9 3 fl_X0_81_9 (tr14 hT (by first | assumption)) rfl dX0_noteFits_39 rfl ?_
          refine ev_ild4 44 dX0_noteFits_42 rfl ?_
          refine tv_zald 45 (tr15 hT (by first | assumption)) (c) (by omega) (by omega) (by omega) dX0_noteFits_44 rfl ?_
          refine tj_if_eq 80 48 dX0_noteFits_45 (by decide) rfl (by first | exact TR.rng hT _ _ _ | exact R31_of _ | exact bi_R _ | (constructor <;> omega)) (fun c45 => ?_) (fun c45 => ?_)
          · skip
            have hcd : cdN X r s b c = false := by unfold cdN; rw [← e15, c45]; simp
            refine tj_inc4 83 dX0_noteFits_80 rfl (by decide) rfl ?_
            refine ev_goto 3 dX0_noteFits_83 (by decide) ?_
            exact ih3 (c + 1) _ _ _ _ (by omega) (by first | omega | assumption | omega) (by first | rfl | omega | (omega)) hT (by first | assumption | (first | exact ⟨fun _ _ => rfl, fun c9 h9 => absurd h9 (Nat.not_lt_zero c9), fun _ _ => rfl⟩ | exact ⟨f1, fun c9 h9 => by by_cases z : c9 = c; (rw [z, hcd, if_neg (by decide)]; exact f3 c (Nat.le_refl c)); exact f2 c9 (by omega), fun c9 h9 => f3 c9 (by omega)⟩ | exact hI5))
          · skip
            refine ev_ild5 50 dX0_noteFits_48 rfl ?_
            refine tj_bipush 52 dX0_noteFits_50 (by decide) rfl ?_
            refine tj_icmp_lt 80 55 dX0_noteFits_52 (by decide) rfl (by first | exact TR.rng hT _ _ _ | exact R31_of _ | exact bi_R _ | (constructor <;> omega)) (by first | exact TR.rng hT _ _ _ | exact R31_of _ | exact bi_R _ | (constructor <;> omega)) (fun c52 => ?_) (fun c52 => ?_)
            · skip
              have h50 : ¬ (50 : Int) ≤ bbR X s b c := by rw [hbb]; omega
              have hcd : cdN X r s b c = false := by unfold cdN; rw [decide_eq_false h50]; simp
              refine tj_inc4 83 dX0_noteFits_80 rfl (by decide) rfl ?_
              refine ev_goto 3 dX0_noteFits_83 (by decide) ?_
              exact ih3 (c + 1) _ _ _ _ (by omega) (by first | omega | assumption | omega) (by first | rfl | omega | (omega)) hT (by first | assumption | (first | exact ⟨fun _ _ => rfl, fun c9 h9 => absurd h9 (Nat.not_lt_zero c9), fun _ _ => rfl⟩ | exact ⟨f1, fun c9 h9 => by by_cases z : c9 = c; (rw [z, hcd, if_neg (by decide)]; exact f3 c (Nat.le_refl c)); exact f2 c9 (by omega), fun c9 h9 => f3 c9 (by omega)⟩ | exact hI5))
            · skip
              refine ev_ild5 57 dX0_noteFits_55 rfl ?_
              refine ev_ald1 58 dX0_noteFits_57 rfl ?_
              refine ev_getfield 61 9 2 fl_X0_84_9 (tr14 hT (by first | assumption)) rfl dX0_noteFits_58 rfl ?_
              refine tj_icmp_lt 80 64 dX0_noteFits_61 (by decide) rfl (by first | exact TR.rng hT _ _ _ | exact R31_of _ | exact bi_R _ | (constructor <;> omega)) (by first | exact TR.rng hT _ _ _ | exact R31_of _ | exact bi_R _ | (constructor <;> omega)) (fun c61 => ?_) (fun c61 => ?_)
              · skip
                have h14 : ¬ X 14 r 2 ≤ bbR X s b c := by rw [hbb, ← e14]; omega
                have hcd : cdN X r s b c = false := by unfold cdN; rw [decide_eq_false h14]; simp
                refine tj_inc4 83 dX0_noteFits_80 rfl (by decide) rfl ?_
                refine ev_goto 3 dX0_noteFits_83 (by decide) ?_
                exact ih3 (c + 1) _ _ _ _ (by omega) (by first | omega | assumption | omega) (by first | rfl | omega | (omega)) hT (by first | assumption | (first | exact ⟨fun _ _ => rfl, fun c9 h9 => absurd h9 (Nat.not_lt_zero c9), fun _ _ => rfl⟩ | exact ⟨f1, fun c9 h9 => by by_cases z : c9 = c; (rw [z, hcd, if_neg (by decide)]; exact f3 c (Nat.le_refl c)); exact f2 c9 (by omega), fun c9 h9 => f3 c9 (by omega)⟩ | exact hI5))
              · skip
                have hcd : cdN X r s b c = true := by unfold cdN; rw [hbb, ← e15, ← e14, decide_eq_true c45, decide_eq_true (by omega), decide_eq_true (by omega)]; rfl
                have hor := or_1 (a := (X2 20 0 c).toNat) (j := m) (by omega) hm
                refine ev_ald0 65 dX0_noteFits_64 rfl ?_
                refine ev_getfield 68 3 3 fl_X0_18_3 (tr17 hT) rfl dX0_noteFits_65 rfl ?_
                refine ev_ild4 70 dX0_noteFits_68 rfl ?_
                refine ev_dup2 71 dX0_noteFits_70 rfl rfl rfl ?_
                refine tv_iald 72 (tr20 hT) (c) (by omega) (by omega) (by omega) dX0_noteFits_71 rfl ?_
                refine tj_iconst 73 dX0_noteFits_72 rfl ?_
                refine ev_ald0 74 dX0_noteFits_73 rfl ?_
                refine ev_getfield 77 3 0 fl_X0_40_3 (tr17 hT) rfl dX0_noteFits_74 rfl ?_
                refine tj_ishl 78 dX0_noteFits_77 1 m rfl e17 (by omega) rfl ?_
                refine tj_ior 79 dX0_noteFits_78 (X2 20 0 c).toNat (1 <<< m) (by omega) rfl rfl ?_
                refine tv_iast 80 hT (tv20 hT) (fun _ => rfl) (c) (by omega) (by omega) (by omega) (by first | exact TR.rng hT _ _ _ | exact R31_of _ | exact bi_R _ | (constructor <;> omega)) dX0_noteFits_79 rfl (fun h hT => ?_)
                obtain ⟨X5, hX5⟩ : ∃ Z, Z = xs X2 20 0 c (((X2 20 0 c).toNat ||| 1 <<< m : Nat) : Int) := ⟨_, rfl⟩
                rw [← hX5] at hT
                have hI5 : (∀ kk, kk ≠ 20 → X5 kk = X kk) ∧ (∀ c9, c9 < c + 1 → X5 20 0 c9 = if cdN X r s b c9 = true then (((X 20 0 c9).toNat ||| 1 <<< m : Nat) : Int) else X 20 0 c9) ∧ ∀ c9, c + 1 ≤ c9 → X5 20 0 c9 = X 20 0 c9 := ⟨fun kk q => by rw [hX5, xs_nk q]; exact f1 kk q, fun c9 h9 => by rw [hX5, xs_at]; by_cases z : c9 = c; (rw [if_pos z, z, hcd, if_pos rfl, h20]); (rw [if_neg z]; exact f2 c9 (by omega)), fun c9 h9 => by rw [hX5, xs_at, if_neg (by omega)]; exact f3 c9 (by omega)⟩
                refine tj_inc4 83 dX0_noteFits_80 rfl (by decide) rfl ?_
                refine ev_goto 3 dX0_noteFits_83 (by decide) ?_
                exact ih3 (c + 1) _ _ _ _ (by omega) (by first | omega | assumption | omega) (by first | rfl | omega | (omega)) hT (by first | assumption | (first | exact ⟨fun _ _ => rfl, fun c9 h9 => absurd h9 (Nat.not_lt_zero c9), fun _ _ => rfl⟩ | exact ⟨f1, fun c9 h9 => by by_cases z : c9 = c; (rw [z, hcd, if_neg (by decide)]; exact f3 c (Nat.le_refl c)); exact f2 c9 (by omega), fun c9 h9 => f3 c9 (by omega)⟩ | exact hI5))
        · skip
          refine ev_ald2 15 dX0_noteFits_14 rfl ?_
          refine ev_getfield 18 10 1 fl_X0_75_10 (tr4 hT (by first | assumption) (by omega)) rfl dX0_noteFits_15 rfl ?_
          refine ev_ild4 20 dX0_noteFits_18 rfl ?_
          refine tv_zald 21 (tr5 hT (by first | assumption) (by omega)) (c) (by omega) (by omega) (by omega) dX0_noteFits_20 rfl ?_
          refine tj_if_eq 29 24 dX0_noteFits_21 (by decide) rfl (by first | exact TR.rng hT _ _ _ | exact R31_of _ | exact bi_R _ | (constructor <;> omega)) (fun c21 => ?_) (fun c21 => ?_)
          · skip
            have hbb : bbR X s b c = X2 8 s c := by unfold bbR tak; rw [← e5, c21, if_neg (by simp), e8]
            refine ev_ald2 30 dX0_noteFits_29 rfl ?_
            refine ev_getfield 33 10 4 fl_X0_78_10 (tr4 hT (by first | assumption) (by omega)) rfl dX0_noteFits_30 rfl ?_
            refine ev_ild4 35 dX0_noteFits_33 rfl ?_
            refine tv_iald 36 (tr8 hT (by first | assumption) (by omega)) (c) (by omega) (by omega) (by omega) dX0_noteFits_35 rfl ?_
            refine ev_ist5 38 dX0_noteFits_36 rfl (by decide) rfl ?_
            refine ev_ald1 39 dX0_noteFits_38 rfl ?_
            refine ev_getfield 42 9 3 fl_X0_81_9 (tr14 hT (by first | assumption)) rfl dX0_noteFits_39 rfl ?_
            refine ev_ild4 44 dX0_noteFits_42 rfl ?_
            refine tv_zald 45 (tr15 hT (by first | assumption)) (c) (by omega) (by omega) (by omega) dX0_noteFits_44 rfl ?_
            refine tj_if_eq 80 48 dX0_noteFits_45 (by decide) rfl (by first | exact TR.rng hT _ _ _ | exact R31_of _ | exact bi_R _ | (constructor <;> omega)) (fun c45 => ?_) (fun c45 => ?_)
            · skip
              have hcd : cdN X r s b c = false := by unfold cdN; rw [← e15, c45]; simp
              refine tj_inc4 83 dX0_noteFits_80 rfl (by decide) rfl ?_
              refine ev_goto 3 dX0_noteFits_83 (by decide) ?_
              exact ih3 (c + 1) _ _ _ _ (by omega) (by first | omega | assumption | omega) (by first | rfl | omega | (omega)) hT (by first | assumption | (first | exact ⟨fun _ _ => rfl, fun c9 h9 => absurd h9 (Nat.not_lt_zero c9), fun _ _ => rfl⟩ | exact ⟨f1, fun c9 h9 => by by_cases z : c9 = c; (rw [z, hcd, if_neg (by decide)]; exact f3 c (Nat.le_refl c)); exact f2 c9 (by omega), fun c9 h9 => f3 c9 (by omega)⟩ | exact hI5))
            · skip
              refine ev_ild5 50 dX0_noteFits_48 rfl ?_
              refine tj_bipush 52 dX0_noteFits_50 (by decide) rfl ?_
              refine tj_icmp_lt 80 55 dX0_noteFits_52 (by decide) rfl (by first | exact TR.rng hT _ _ _ | exact R31_of _ | exact bi_R _ | (constructor <;> omega)) (by first | exact TR.rng hT _ _ _ | exact R31_of _ | exact bi_R _ | (constructor <;> omega)) (fun c52 => ?_) (fun c52 => ?_)
              · skip
                have h50 : ¬ (50 : Int) ≤ bbR X s b c := by rw [hbb]; omega
                have hcd : cdN X r s b c = false := by unfold cdN; rw [decide_eq_false h50]; simp
                refine tj_inc4 83 dX0_noteFits_80 rfl (by decide) rfl ?_
                refine ev_goto 3 dX0_noteFits_83 (by decide) ?_
                exact ih3 (c + 1) _ _ _ _ (by omega) (by first | omega | assumption | omega) (by first | rfl | omega | (omega)) hT (by first | assumption | (first | exact ⟨fun _ _ => rfl, fun c9 h9 => absurd h9 (Nat.not_lt_zero c9), fun _ _ => rfl⟩ | exact ⟨f1, fun c9 h9 => by by_cases z : c9 = c; (rw [z, hcd, if_neg (by decide)]; exact f3 c (Nat.le_refl c)); exact f2 c9 (by omega), fun c9 h9 => f3 c9 (by omega)⟩ | exact hI5))
              · skip
                refine ev_ild5 57 dX0_noteFits_55 rfl ?_
                refine ev_ald1 58 dX0_noteFits_57 rfl ?_
                refine ev_getfield 61 9 2 fl_X0_84_9 (tr14 hT (by first | assumption)) rfl dX0_noteFits_58 rfl ?_
                refine tj_icmp_lt 80 64 dX0_noteFits_61 (by decide) rfl (by first | exact TR.rng hT _ _ _ | exact R31_of _ | exact bi_R _ | (constructor <;> omega)) (by first | exact TR.rng hT _ _ _ | exact R31_of _ | exact bi_R _ | (constructor <;> omega)) (fun c61 => ?_) (fun c61 => ?_)
                · skip
                  have h14 : ¬ X 14 r 2 ≤ bbR X s b c := by rw [hbb, ← e14]; omega
                  have hcd : cdN X r s b c = false := by unfold cdN; rw [decide_eq_false h14]; simp
                  refine tj_inc4 83 dX0_noteFits_80 rfl (by decide) rfl ?_
                  refine ev_goto 3 dX0_noteFits_83 (by decide) ?_
                  exact ih3 (c + 1) _ _ _ _ (by omega) (by first | omega | assumption | omega) (by first | rfl | omega | (omega)) hT (by first | assumption | (first | exact ⟨fun _ _ => rfl, fun c9 h9 => absurd h9 (Nat.not_lt_zero c9), fun _ _ => rfl⟩ | exact ⟨f1, fun c9 h9 => by by_cases z : c9 = c; (rw [z, hcd, if_neg (by decide)]; exact f3 c (Nat.le_refl c)); exact f2 c9 (by omega), fun c9 h9 => f3 c9 (by omega)⟩ | exact hI5))
                · skip
                  have hcd : cdN X r s b c = true := by unfold cdN; rw [hbb, ← e15, ← e14, decide_eq_true c45, decide_eq_true (by omega), decide_eq_true (by omega)]; rfl
                  have hor := or_1 (a := (X2 20 0 c).toNat) (j := m) (by omega) hm
                  refine ev_ald0 65 dX0_noteFits_64 rfl ?_
                  refine ev_getfield 68 3 3 fl_X0_18_3 (tr17 hT) rfl dX0_noteFits_65 rfl ?_
                  refine ev_ild4 70 dX0_noteFits_68 rfl ?_
                  refine ev_dup2 71 dX0_noteFits_70 rfl rfl rfl ?_
                  refine tv_iald 72 (tr20 hT) (c) (by omega) (by omega) (by omega) dX0_noteFits_71 rfl ?_
                  refine tj_iconst 73 dX0_noteFits_72 rfl ?_
                  refine ev_ald0 74 dX0_noteFits_73 rfl ?_
                  refine ev_getfield 77 3 0 fl_X0_40_3 (tr17 hT) rfl dX0_noteFits_74 rfl ?_
                  refine tj_ishl 78 dX0_noteFits_77 1 m rfl e17 (by omega) rfl ?_
                  refine tj_ior 79 dX0_noteFits_78 (X2 20 0 c).toNat (1 <<< m) (by omega) rfl rfl ?_
                  refine tv_iast 80 hT (tv20 hT) (fun _ => rfl) (c) (by omega) (by omega) (by omega) (by first | exact TR.rng hT _ _ _ | exact R31_of _ | exact bi_R _ | (constructor <;> omega)) dX0_noteFits_79 rfl (fun h hT => ?_)
                  obtain ⟨X5, hX5⟩ : ∃ Z, Z = xs X2 20 0 c (((X2 20 0 c).toNat ||| 1 <<< m : Nat) : Int) := ⟨_, rfl⟩
                  rw [← hX5] at hT
                  have hI5 : (∀ kk, kk ≠ 20 → X5 kk = X kk) ∧ (∀ c9, c9 < c + 1 → X5 20 0 c9 = if cdN X r s b c9 = true then (((X 20 0 c9).toNat ||| 1 <<< m : Nat) : Int) else X 20 0 c9) ∧ ∀ c9, c + 1 ≤ c9 → X5 20 0 c9 = X 20 0 c9 := ⟨fun kk q => by rw [hX5, xs_nk q]; exact f1 kk q, fun c9 h9 => by rw [hX5, xs_at]; by_cases z : c9 = c; (rw [if_pos z, z, hcd, if_pos rfl, h20]); (rw [if_neg z]; exact f2 c9 (by omega)), fun c9 h9 => by rw [hX5, xs_at, if_neg (by omega)]; exact f3 c9 (by omega)⟩
                  refine tj_inc4 83 dX0_noteFits_80 rfl (by decide) rfl ?_
                  refine ev_goto 3 dX0_noteFits_83 (by decide) ?_
                  exact ih3 (c + 1) _ _ _ _ (by omega) (by first | omega | assumption | omega) (by first | rfl | omega | (omega)) hT (by first | assumption | (first | exact ⟨fun _ _ => rfl, fun c9 h9 => absurd h9 (Nat.not_lt_zero c9), fun _ _ => rfl⟩ | exact ⟨f1, fun c9 h9 => by by_cases z : c9 = c; (rw [z, hcd, if_neg (by decide)]; exact f3 c (Nat.le_refl c)); exact f2 c9 (by omega), fun c9 h9 => f3 c9 (by omega)⟩ | exact hI5))
          · skip
            have hbb : bbR X s b c = 100 := by unfold bbR tak; rw [c11, Bool.true_and, ← e5, if_pos (decide_eq_true c21)]
            refine tj_bipush 26 dX0_noteFits_24 (by decide) rfl ?_
            refine ev_goto 36 dX0_noteFits_26 (by decide) ?_
            refine ev_ist5 38 dX0_noteFits_36 rfl (by decide) rfl ?_
            refine ev_ald1 39 dX0_noteFits_38 rfl ?_
            refine ev_getfield 42 9 3 fl_X0_81_9 (tr14 hT (by first | assumption)) rfl dX0_noteFits_39 rfl ?_
            refine ev_ild4 44 dX0_noteFits_42 rfl ?_
            refine tv_zald 45 (tr15 hT (by first | assumption)) (c) (by omega) (by omega) (by omega) dX0_noteFits_44 rfl ?_
            refine tj_if_eq 80 48 dX0_noteFits_45 (by decide) rfl (by first | exact TR.rng hT _ _ _ | exact R31_of _ | exact bi_R _ | (constructor <;> omega)) (fun c45 => ?_) (fun c45 => ?_)
            · skip
              have hcd : cdN X r s b c = false := by unfold cdN; rw [← e15, c45]; simp
              refine tj_inc4 83 dX0_noteFits_80 rfl (by decide) rfl ?_
              refine ev_goto 3 dX0_noteFits_83 (by decide) ?_
              exact ih3 (c + 1) _ _ _ _ (by omega) (by first | omega | assumption | omega) (by first | rfl | omega | (omega)) hT (by first | assumption | (first | exact ⟨fun _ _ => rfl, fun c9 h9 => absurd h9 (Nat.not_lt_zero c9), fun _ _ => rfl⟩ | exact ⟨f1, fun c9 h9 => by by_cases z : c9 = c; (rw [z, hcd, if_neg (by decide)]; exact f3 c (Nat.le_refl c)); exact f2 c9 (by omega), fun c9 h9 => f3 c9 (by omega)⟩ | exact hI5))
            · skip
              refine ev_ild5 50 dX0_noteFits_48 rfl ?_
              refine tj_bipush 52 dX0_noteFits_50 (by decide) rfl ?_
              refine tj_icmp_lt 80 55 dX0_noteFits_52 (by decide) rfl (by first | exact TR.rng hT _ _ _ | exact R31_of _ | exact bi_R _ | (constructor <;> omega)) (by first | exact TR.rng hT _ _ _ | exact R31_of _ | exact bi_R _ | (constructor <;> omega)) (fun c52 => ?_) (fun c52 => ?_)
              · skip
                have h50 : ¬ (50 : Int) ≤ bbR X s b c := by rw [hbb]; omega
                have hcd : cdN X r s b c = false := by unfold cdN; rw [decide_eq_false h50]; simp
                refine tj_inc4 83 dX0_noteFits_80 rfl (by decide) rfl ?_
                refine ev_goto 3 dX0_noteFits_83 (by decide) ?_
                exact ih3 (c + 1) _ _ _ _ (by omega) (by first | omega | assumption | omega) (by first | rfl | omega | (omega)) hT (by first | assumption | (first | exact ⟨fun _ _ => rfl, fun c9 h9 => absurd h9 (Nat.not_lt_zero c9), fun _ _ => rfl⟩ | exact ⟨f1, fun c9 h9 => by by_cases z : c9 = c; (rw [z, hcd, if_neg (by decide)]; exact f3 c (Nat.le_refl c)); exact f2 c9 (by omega), fun c9 h9 => f3 c9 (by omega)⟩ | exact hI5))
              · skip
                refine ev_ild5 57 dX0_noteFits_55 rfl ?_
                refine ev_ald1 58 dX0_noteFits_57 rfl ?_
                refine ev_getfield 61 9 2 fl_X0_84_9 (tr14 hT (by first | assumption)) rfl dX0_noteFits_58 rfl ?_
                refine tj_icmp_lt 80 64 dX0_noteFits_61 (by decide) rfl (by first | exact TR.rng hT _ _ _ | exact R31_of _ | exact bi_R _ | (constructor <;> omega)) (by first | exact TR.rng hT _ _ _ | exact R31_of _ | exact bi_R _ | (constructor <;> omega)) (fun c61 => ?_) (fun c61 => ?_)
                · skip
                  have h14 : ¬ X 14 r 2 ≤ bbR X s b c := by rw [hbb, ← e14]; omega
                  have hcd : cdN X r s b c = false := by unfold cdN; rw [decide_eq_false h14]; simp
                  refine tj_inc4 83 dX0_noteFits_80 rfl (by decide) rfl ?_
                  refine ev_goto 3 dX0_noteFits_83 (by decide) ?_
                  exact ih3 (c + 1) _ _ _ _ (by omega) (by first | omega | assumption | omega) (by first | rfl | omega | (omega)) hT (by first | assumption | (first | exact ⟨fun _ _ => rfl, fun c9 h9 => absurd h9 (Nat.not_lt_zero c9), fun _ _ => rfl⟩ | exact ⟨f1, fun c9 h9 => by by_cases z : c9 = c; (rw [z, hcd, if_neg (by decide)]; exact f3 c (Nat.le_refl c)); exact f2 c9 (by omega), fun c9 h9 => f3 c9 (by omega)⟩ | exact hI5))
                · skip
                  have hcd : cdN X r s b c = true := by unfold cdN; rw [hbb, ← e15, ← e14, decide_eq_true c45, decide_eq_true (by omega), decide_eq_true (by omega)]; rfl
                  have hor := or_1 (a := (X2 20 0 c).toNat) (j := m) (by omega) hm
                  refine ev_ald0 65 dX0_noteFits_64 rfl ?_
                  refine ev_getfield 68 3 3 fl_X0_18_3 (tr17 hT) rfl dX0_noteFits_65 rfl ?_
                  refine ev_ild4 70 dX0_noteFits_68 rfl ?_
                  refine ev_dup2 71 dX0_noteFits_70 rfl rfl rfl ?_
                  refine tv_iald 72 (tr20 hT) (c) (by omega) (by omega) (by omega) dX0_noteFits_71 rfl ?_
                  refine tj_iconst 73 dX0_noteFits_72 rfl ?_
                  refine ev_ald0 74 dX0_noteFits_73 rfl ?_
                  refine ev_getfield 77 3 0 fl_X0_40_3 (tr17 hT) rfl dX0_noteFits_74 rfl ?_
                  refine tj_ishl 78 dX0_noteFits_77 1 m rfl e17 (by omega) rfl ?_
                  refine tj_ior 79 dX0_noteFits_78 (X2 20 0 c).toNat (1 <<< m) (by omega) rfl rfl ?_
                  refine tv_iast 80 hT (tv20 hT) (fun _ => rfl) (c) (by omega) (by omega) (by omega) (by first | exact TR.rng hT _ _ _ | exact R31_of _ | exact bi_R _ | (constructor <;> omega)) dX0_noteFits_79 rfl (fun h hT => ?_)
                  obtain ⟨X5, hX5⟩ : ∃ Z, Z = xs X2 20 0 c (((X2 20 0 c).toNat ||| 1 <<< m : Nat) : Int) := ⟨_, rfl⟩
                  rw [← hX5] at hT
                  have hI5 : (∀ kk, kk ≠ 20 → X5 kk = X kk) ∧ (∀ c9, c9 < c + 1 → X5 20 0 c9 = if cdN X r s b c9 = true then (((X 20 0 c9).toNat ||| 1 <<< m : Nat) : Int) else X 20 0 c9) ∧ ∀ c9, c + 1 ≤ c9 → X5 20 0 c9 = X 20 0 c9 := ⟨fun kk q => by rw [hX5, xs_nk q]; exact f1 kk q, fun c9 h9 => by rw [hX5, xs_at]; by_cases z : c9 = c; (rw [if_pos z, z, hcd, if_pos rfl, h20]); (rw [if_neg z]; exact f2 c9 (by omega)), fun c9 h9 => by rw [hX5, xs_at, if_neg (by omega)]; exact f3 c9 (by omega)⟩
                  refine tj_inc4 83 dX0_noteFits_80 rfl (by decide) rfl ?_
                  refine ev_goto 3 dX0_noteFits_83 (by decide) ?_
                  exact ih3 (c + 1) _ _ _ _ (by omega) (by first | omega | assumption | omega) (by first | rfl | omega | (omega)) hT (by first | assumption | (first | exact ⟨fun _ _ => rfl, fun c9 h9 => absurd h9 (Nat.not_lt_zero c9), fun _ _ => rfl⟩ | exact ⟨f1, fun c9 h9 => by by_cases z : c9 = c; (rw [z, hcd, if_neg (by decide)]; exact f3 c (Nat.le_refl c)); exact f2 c9 (by omega), fun c9 h9 => f3 c9 (by omega)⟩ | exact hI5))
  exact lp3 _ (0) _ _ _ _ (Nat.lt_succ_self _) (by first | omega | assumption | omega) (by first | rfl | omega | (omega)) hT (by first | assumption | (first | exact ⟨fun _ _ => rfl, fun c9 h9 => absurd h9 (Nat.not_lt_zero c9), fun _ _ => rfl⟩ | exact ⟨f1, fun c9 h9 => by by_cases z : c9 = c; (rw [z, hcd, if_neg (by decide)]; exact f3 c (Nat.le_refl c)); exact f2 c9 (by omega), fun c9 h9 => f3 c9 (by omega)⟩ | exact hI5))
set_option maxRecDepth 100000 in
set_option maxHeartbeats 4000000 in
theorem c_X0_open {g : Gt} {α : AL} {ν : Nat → Nat → Bool} {X : XM} {h : AH} (hT : TR g α ν X h) (hW : WX ν X) {s : Nat} (hs0 : (s : Int) < nS X) {b : Bool} : Mu g α ν M_X0_open 3 [.ref (α 17 0), .ref (α 1 3), .ref (α 4 s), .int (J (bi b))] h (none) (fun X' => (∀ kk, kk ≠ 17 → kk ≠ 18 → kk ≠ 19 → kk ≠ 20 → X' kk = X kk) ∧ AU X' (nsl X s) (itR X s) (ndR X s) (ftR X s b)) := by
  refine mu_of rfl rfl (ls := [some (.ref (α 17 0)), some (.ref (α 1 3)), some (.ref (α 4 s)), some (.int (J (bi b))), none, none]) rfl (Nat.le_of_ble_eq_true rfl) ?_
  show Ev g M_X0_open 3 0 [some (.ref (α 17 0)), some (.ref (α 1 3)), some (.ref (α 4 s)), some (.int (J (bi b))), none, none] [] h 0 0 (UQ g α ν (none) (fun X' => (∀ kk, kk ≠ 17 → kk ≠ 18 → kk ≠ 19 → kk ≠ 20 → X' kk = X kk) ∧ AU X' (nsl X s) (itR X s) (ndR X s) (ftR X s b)))
  have q1 := wo_nC hW.1
  have q3 := wo_nS hW.1
  have hW0 := hW
  have hs := wx_stu hW hs0
  have hl : s < 17 := by omega
  have qnR := wo_nR hW.1
  refine ev_ald0 1 dX0_open_0 rfl ?_
  refine tj_iconst 2 dX0_open_1 rfl ?_
  refine tv_puti 5 0 .int fl_X0_40_3 fp_3_0 hT (tv17 hT) (fun _ => rfl) rfl (Nat.le_of_ble_eq_true rfl) rfl rfl (by first | exact TR.rng hT _ _ _ | exact R31_of _ | exact bi_R _ | (constructor <;> omega)) dX0_open_2 rfl (fun h hT => ?_)
  obtain ⟨XA, hXA⟩ : ∃ Z, Z = xs X 17 0 0 0 := ⟨_, rfl⟩
  rw [← hXA] at hT
  refine ev_ald0 6 dX0_open_5 rfl ?_
  refine ev_getfield 9 3 3 fl_X0_18_3 (tr17 hT) rfl dX0_open_6 rfl ?_
  refine tj_iconst 10 dX0_open_9 rfl ?_
  refine tmv_S2 13 dX0_open_10 lks_X0_44 rfl (by first | decide | omega) (Nat.le_of_ble_eq_true rfl) (fill_c hT (tv20 hT) (fun _ => rfl) (L := 20) (by omega) R31_0) (fun h X1 hT hP10 => ?_)
  have hP10b : X1 = xw XA 20 0 (fun j => if j < 20 then 0 else XA 20 0 j) := hP10
  have hI0 : (∀ kk, kk ≠ 17 → kk ≠ 18 → kk ≠ 19 → kk ≠ 20 → X1 kk = X kk) ∧ X1 17 0 0 = cnt (prM X s) 0 ∧ (∀ k : Nat, (k : Int) < cnt (prM X s) 0 → X1 18 0 k = itN (prM X s) k 0 ∧ X1 19 0 k = X 14 (itN (prM X s) k 0) 1) ∧ ∀ c, c < 20 → bts (X1 20 0 c) (fun k => decide ((k : Int) < cnt (prM X s) 0) && cdN X (itN (prM X s) k 0) s b c) := ⟨fun kk q1 q2 q3 q4 => by rw [hP10b]; funext i; rw [xw_ne (fun z => q4 z.1), hXA, xs_nk q1], by rw [hP10b, xw_ne (by omega), hXA, xs_at, if_pos rfl]; rfl, fun k hk => absurd hk (by show ¬ (k : Int) < 0; omega), fun c hc => by rw [hP10b, xw_at, if_pos hc]; exact ⟨by decide, by decide, fun k hk => by show Nat.testBit 0 k = (decide ((k : Int) < cnt (prM X s) 0) && _); rw [decide_eq_false (by show ¬ (k : Int) < 0; omega)]; simp⟩⟩
  refine tj_iconst 14 dX0_open_13 rfl ?_
  refine ev_ist4 16 dX0_open_14 rfl (by decide) rfl ?_
  have lp16 : ∀ (n16 : Nat) (r : Nat) (z4 : Int) (o5 : Option Value) (h : AH) (X2 : XM), 17 - r < n16 → ((r : Int) ≤ nR X) → z4 = (r : Int) → TR g α ν X2 h → ((∀ kk, kk ≠ 17 → kk ≠ 18 → kk ≠ 19 → kk ≠ 20 → X2 kk = X kk) ∧ X2 17 0 0 = cnt (prM X s) r ∧ (∀ k : Nat, (k : Int) < cnt (prM X s) r → X2 18 0 k = itN (prM X s) k r ∧ X2 19 0 k = X 14 (itN (prM X s) k r) 1) ∧ ∀ c, c < 20 → bts (X2 20 0 c) (fun k => decide ((k : Int) < cnt (prM X s) r) && cdN X (itN (prM X s) k r) s b c)) → Ev g M_X0_open 3 16 [some (.ref (α 17 0)), some (.ref (α 1 3)), some (.ref (α 4 s)), some (.int (J (bi b))), some (.int (J z4)), o5] [] h 0 0 (UQ g α ν (none) (fun X' => (∀ kk, kk ≠ 17 → kk ≠ 18 → kk ≠ 19 → kk ≠ 20 → X' kk = X kk) ∧ AU X' (nsl X s) (itR X s) (ndR X s) (ftR X s b))) := by
    intro n16
    induction n16 with
    | zero => intro r z4 o5 h X2 hm; exact absurd hm (Nat.not_lt_zero _)
    | succ n16 ih16 =>
      intro r z4 o5 h X2 hm16 hr e4 hT hI
      subst e4
      obtain ⟨f1, f2, f3, f4⟩ := hI
      have hW : WX ν X2 := wx_cg hW0 (fun kk q => f1 kk (by omega) (by omega) (by omega) (by omega))
      have e1 := f1 1 (by decide) (by decide) (by decide) (by decide)
      have e4 := f1 4 (by decide) (by decide) (by decide) (by decide)
      have e14 := f1 14 (by decide) (by decide) (by decide) (by decide)
      have enR : nR X2 = nR X := by unfold nR; rw [e1]
      refine ev_ild4 18 dX0_open_16 rfl ?_
      refine ev_ald1 19 dX0_open_18 rfl ?_
      refine tc_V0 22 2 dX0_open_19 lkv_X0_50 (tr1_3 hT) rfl rfl (by first | decide | omega) (Nat.le_of_ble_eq_true rfl) (z_R hT hW) ?_
      refine tj_icmp_ge 105 25 dX0_open_22 (by decide) rfl (by first | exact TR.rng hT _ _ _ | exact R31_of _ | exact bi_R _ | (constructor <;> omega)) (by first | exact TR.rng hT _ _ _ | exact R31_of _ | exact bi_R _ | (constructor <;> omega)) (fun c22 => ?_) (fun c22 => ?_)
      · skip
        exact ev_vreturn (uq_v hT (by have er : r = (nR X).toNat := (by omega); subst er; have c0 := cnt_0 (prM X s) (nR X).toNat; exact ⟨f1, by rw [f2]; unfold nsl; omega, fun k hk => f3 k (by unfold nsl at hk; omega), fun c hc => bts_cg (f4 c hc) (fun k hk => by show (decide ((k : Int) < _) && cdN X (itN (prM X s) k (nR X).toNat) s b c) = (decide (k < nsl X s) && (decide ((c : Int) < nC X) && cdN X (itR X s k) s b c)); have hd : decide ((k : Int) < cnt (prM X s) (nR X).toNat) = decide (k < nsl X s) := (by unfold nsl; by_cases q : (k : Int) < cnt (prM X s) (nR X).toNat; (rw [decide_eq_true q, decide_eq_true (by omega)]); (rw [decide_eq_false q, decide_eq_false (by omega)])); rw [hd]; by_cases q : (c : Int) < nC X; (rw [decide_eq_true q, Bool.true_and]; rfl); (rw [decide_eq_false q, cdN_far hW0.1 hs0 (by omega) hc]; simp))⟩)) rfl dX0_open_105
      · skip
        refine ev_ald1 26 dX0_open_25 rfl ?_
        refine ev_ild4 28 dX0_open_26 rfl ?_
        refine tc_V1 31 2 dX0_open_28 lkv_X0_56 (tr1_3 hT) rfl rfl (by first | decide | omega) (Nat.le_of_ble_eq_true rfl) (g_R hT hW (by omega)) ?_
        refine ev_castS 34 dX0_open_31 cl_X0_60 (tr14 hT (by first | assumption | exact wx_rul hW (by omega))) rfl rfl ?_
        refine ev_ast5 36 dX0_open_34 rfl (by decide) rfl ?_
        refine ev_ald5 38 dX0_open_36 rfl ?_
        refine ev_getfield 41 9 0 fl_X0_62_9 (tr14 hT (by first | assumption | exact wx_rul hW (by omega))) rfl dX0_open_38 rfl ?_
        refine ev_ald2 42 dX0_open_41 rfl ?_
        refine ev_getfield 45 10 0 fl_X0_65_10 (tr4 hT (by first | assumption | exact wx_rul hW (by omega)) (by omega)) rfl dX0_open_42 rfl ?_
        refine tj_icmp_ne 99 48 dX0_open_45 (by decide) rfl (by first | exact TR.rng hT _ _ _ | exact R31_of _ | exact bi_R _ | (constructor <;> omega)) (by first | exact TR.rng hT _ _ _ | exact R31_of _ | exact bi_R _ | (constructor <;> omega)) (fun c45 => ?_) (fun c45 => ?_)
        · skip
          have hnp : prM X s r = false := decide_eq_false (by rw [e14, e4] at c45; exact c45)
          have hcn : cnt (prM X s) (r + 1) = cnt (prM X s) r := by rw [cnt_s, hnp, if_neg (by decide), Int.add_zero]
          refine tj_inc4 102 dX0_open_99 rfl (by decide) rfl ?_
          refine ev_goto 16 dX0_open_102 (by decide) ?_
          exact ih16 (r + 1) _ _ _ _ (by omega) (by first | omega | assumption | omega) (by first | rfl | omega | (omega)) hT (by first | assumption | (first | exact hI0 | exact hI9 | exact ⟨f1, by rw [f2, hcn], fun k hk => by rw [hcn] at hk; rw [itN_s hk]; exact f3 k hk, fun c hc => bts_cg (f4 c hc) (fun k hk => by show (decide ((k : Int) < _) && cdN X (itN (prM X s) k r) s b c) = (decide ((k : Int) < _) && cdN X (itN (prM X s) k (r + 1)) s b c); rw [hcn]; by_cases q : (k : Int) < cnt (prM X s) r; (rw [itN_s q]); (rw [decide_eq_false q]; rfl))⟩))
        · skip
          have hp : prM X s r = true := decide_eq_true (by rw [e14, e4] at c45; exact c45)
          have hc4 := cnt_R4 hW0.1 (s := s) (r := r) (by omega) hp
          obtain ⟨m, hm⟩ : ∃ m : Nat, cnt (prM X s) r = (m : Int) := ⟨(cnt (prM X s) r).toNat, by omega⟩
          refine ev_ald0 49 dX0_open_48 rfl ?_
          refine ev_getfield 52 3 0 fl_X0_40_3 (tr17 hT) rfl dX0_open_49 rfl ?_
          refine tj_iconst 53 dX0_open_52 rfl ?_
          refine tj_icmp_ge 99 56 dX0_open_53 (by decide) rfl (by first | exact TR.rng hT _ _ _ | exact R31_of _ | exact bi_R _ | (constructor <;> omega)) (by first | exact TR.rng hT _ _ _ | exact R31_of _ | exact bi_R _ | (constructor <;> omega)) (fun c53 => ?_) (fun c53 => ?_)
          · exact False.elim (by omega)
          · skip
            refine ev_ald0 57 dX0_open_56 rfl ?_
            refine ev_getfield 60 3 1 fl_X0_11_3 (tr17 hT) rfl dX0_open_57 rfl ?_
            refine ev_ald0 61 dX0_open_60 rfl ?_
            refine ev_getfield 64 3 0 fl_X0_40_3 (tr17 hT) rfl dX0_open_61 rfl ?_
            refine ev_ild4 66 dX0_open_64 rfl ?_
            refine tv_iast 67 hT (tv18 hT) (fun _ => rfl) (m) (by omega) (by omega) (by omega) (by first | exact TR.rng hT _ _ _ | exact R31_of _ | exact bi_R _ | (constructor <;> omega)) dX0_open_66 rfl (fun h hT => ?_)
            obtain ⟨X3, hX3⟩ : ∃ Z, Z = xs X2 18 0 m (r : Int) := ⟨_, rfl⟩
            rw [← hX3] at hT
            have e17 : X3 17 0 0 = m := by rw [hX3, xs_nk (by decide), f2, hm]
            refine ev_ald0 68 dX0_open_67 rfl ?_
            refine ev_getfield 71 3 2 fl_X0_15_3 (tr17 hT) rfl dX0_open_68 rfl ?_
            refine ev_ald0 72 dX0_open_71 rfl ?_
            refine ev_getfield 75 3 0 fl_X0_40_3 (tr17 hT) rfl dX0_open_72 rfl ?_
            refine ev_ald5 77 dX0_open_75 rfl ?_
            refine ev_getfield 80 9 1 fl_X0_68_9 (tr14 hT (by first | assumption | exact wx_rul hW (by omega))) rfl dX0_open_77 rfl ?_
            refine tv_iast 81 hT (tv19 hT) (fun _ => rfl) (m) (by omega) (by omega) (by omega) (by first | exact TR.rng hT _ _ _ | exact R31_of _ | exact bi_R _ | (constructor <;> omega)) dX0_open_80 rfl (fun h hT => ?_)
            obtain ⟨X4, hX4⟩ : ∃ Z, Z = xs X3 19 0 m (X3 14 r 1) := ⟨_, rfl⟩
            rw [← hX4] at hT
            have e17 : X4 17 0 0 = m := by rw [hX4, xs_nk (by decide), e17]
            have e20 : X4 20 = X2 20 := by rw [hX4, xs_nk (by decide), hX3, xs_nk (by decide)]
            have hf20 : ∀ c, c < 20 → 0 ≤ X4 20 0 c ∧ X4 20 0 c < 16 := fun c hc => by rw [e20]; exact ⟨(f4 c hc).1, (f4 c hc).2.1⟩
            refine ev_ald0 82 dX0_open_81 rfl ?_
            refine ev_ald5 84 dX0_open_82 rfl ?_
            refine ev_ald2 85 dX0_open_84 rfl ?_
            refine ev_ild3 86 dX0_open_85 rfl ?_
            refine tmv_V3 89 3 dX0_open_86 lkv_X0_71 (tr17 hT) rfl rfl (by first | decide | omega) (Nat.le_of_ble_eq_true rfl) (c_X0_noteFits hT (r := r) (s := s) (m := m) (b := b) (wx_rul hW0 (by omega)) hs hl (by omega) e17 hf20) (fun h X1 hT hP86 => ?_)
            obtain ⟨w1, w2⟩ := hP86
            have e17 : X1 17 0 0 = m := by rw [w1 17 (by decide)]; exact e17
            have hcdX : ∀ c, cdN X4 r s b c = cdN X r s b c := fun c => by have k14 : X4 14 = X 14 := (by rw [hX4, xs_nk (by decide), hX3, xs_nk (by decide)]; exact e14); have k15 : X4 15 = X 15 := (by rw [hX4, xs_nk (by decide), hX3, xs_nk (by decide)]; exact f1 15 (by decide) (by decide) (by decide) (by decide)); have k5 : X4 5 = X 5 := (by rw [hX4, xs_nk (by decide), hX3, xs_nk (by decide)]; exact f1 5 (by decide) (by decide) (by decide) (by decide)); have k8 : X4 8 = X 8 := (by rw [hX4, xs_nk (by decide), hX3, xs_nk (by decide)]; exact f1 8 (by decide) (by decide) (by decide) (by decide)); unfold cdN bbR tak; rw [k14, k15, k5, k8]
            refine ev_ald0 90 dX0_open_89 rfl ?_
            refine ev_dup 91 dX0_open_90 rfl rfl ?_
            refine ev_getfield 94 3 0 fl_X0_40_3 (tr17 hT) rfl dX0_open_91 rfl ?_
            refine tj_iconst 95 dX0_open_94 rfl ?_
            refine tj_iadd 96 dX0_open_95 rfl ?_
            refine tv_puti 99 0 .int fl_X0_40_3 fp_3_0 hT (tv17 hT) (fun _ => rfl) rfl (Nat.le_of_ble_eq_true rfl) rfl rfl (by first | exact TR.rng hT _ _ _ | exact R31_of _ | exact bi_R _ | (constructor <;> omega)) dX0_open_96 rfl (fun h hT => ?_)
            obtain ⟨X5, hX5⟩ : ∃ Z, Z = xs X1 17 0 0 (X1 17 0 0 + 1) := ⟨_, rfl⟩
            rw [← hX5] at hT
            have hcn : cnt (prM X s) (r + 1) = m + 1 := by rw [cnt_s, if_pos hp, hm]
            have hI9 : (∀ kk, kk ≠ 17 → kk ≠ 18 → kk ≠ 19 → kk ≠ 20 → X5 kk = X kk) ∧ X5 17 0 0 = cnt (prM X s) (r + 1) ∧ (∀ k : Nat, (k : Int) < cnt (prM X s) (r + 1) → X5 18 0 k = itN (prM X s) k (r + 1) ∧ X5 19 0 k = X 14 (itN (prM X s) k (r + 1)) 1) ∧ ∀ c, c < 20 → bts (X5 20 0 c) (fun k => decide ((k : Int) < cnt (prM X s) (r + 1)) && cdN X (itN (prM X s) k (r + 1)) s b c) := ⟨fun kk q1 q2 q3 q4 => by rw [hX5, xs_nk q1, w1 kk q4, hX4, xs_nk q3, hX3, xs_nk q2]; exact f1 kk q1 q2 q3 q4, by rw [hX5, xs_at, if_pos rfl, e17, hcn], fun k hk => by rw [hcn] at hk; rw [hX5, xs_nk (by decide), xs_nk (by decide), w1 18 (by decide), w1 19 (by decide), hX4, xs_nk (by decide), xs_at, hX3, xs_at, xs_nk (by decide), xs_nk (by decide)]; by_cases e : k = m; (rw [if_pos e, if_pos e, e, itN_at hp hm, e14]; exact ⟨rfl, rfl⟩); (rw [if_neg e, if_neg e, itN_s (by omega)]; exact f3 k (by omega)), fun c hc => by rw [hX5, xs_nk (by decide), w2 c hc, hcdX c, e20]; have hb0 := f4 c hc; rw [hcn]; by_cases e : cdN X r s b c = true; (rw [if_pos e]; refine bts_cg (bts_or hb0 (m := m) (by omega)) (fun k hk => ?_); show ((decide ((k : Int) < _) && cdN X (itN (prM X s) k r) s b c) || decide (k = m)) = (decide ((k : Int) < (m : Int) + 1) && cdN X (itN (prM X s) k (r + 1)) s b c); rw [hm]; by_cases z : k = m; (rw [z, itN_at hp hm, e, decide_eq_true rfl, decide_eq_true (show (m : Int) < m + 1 by omega)]; simp); (rw [decide_eq_false z, Bool.or_false]; by_cases q : (k : Int) < m; (rw [decide_eq_true q, decide_eq_true (show (k : Int) < (m : Int) + 1 by omega), itN_s (by omega)]); (rw [decide_eq_false q, decide_eq_false (show ¬ (k : Int) < (m : Int) + 1 by omega)]; rfl))); (rw [if_neg e]; refine bts_cg hb0 (fun k hk => ?_); show (decide ((k : Int) < _) && cdN X (itN (prM X s) k r) s b c) = (decide ((k : Int) < (m : Int) + 1) && cdN X (itN (prM X s) k (r + 1)) s b c); rw [hm]; by_cases z : k = m; (rw [z, itN_at hp hm, Bool.eq_false_iff.mpr e, decide_eq_false (show ¬ (m : Int) < m by omega)]; simp); (by_cases q : (k : Int) < m; (rw [decide_eq_true q, decide_eq_true (show (k : Int) < (m : Int) + 1 by omega), itN_s (by omega)]); (rw [decide_eq_false q, decide_eq_false (show ¬ (k : Int) < (m : Int) + 1 by omega)]; rfl)))⟩
            refine tj_inc4 102 dX0_open_99 rfl (by decide) rfl ?_
            refine ev_goto 16 dX0_open_102 (by decide) ?_
            exact ih16 (r + 1) _ _ _ _ (by omega) (by first | omega | assumption | omega) (by first | rfl | omega | (omega)) hT (by first | assumption | (first | exact hI0 | exact hI9 | exact ⟨f1, by rw [f2, hcn], fun k hk => by rw [hcn] at hk; rw [itN_s hk]; exact f3 k hk, fun c hc => bts_cg (f4 c hc) (fun k hk => by show (decide ((k : Int) < _) && cdN X (itN (prM X s) k r) s b c) = (decide ((k : Int) < _) && cdN X (itN (prM X s) k (r + 1)) s b c); rw [hcn]; by_cases q : (k : Int) < cnt (prM X s) r; (rw [itN_s q]); (rw [decide_eq_false q]; rfl))⟩))
  exact lp16 _ (0) _ _ _ _ (Nat.lt_succ_self _) (by first | omega | assumption | omega) (by first | rfl | omega | (omega)) hT (by first | assumption | (first | exact hI0 | exact hI9 | exact ⟨f1, by rw [f2, hcn], fun k hk => by rw [hcn] at hk; rw [itN_s hk]; exact f3 k hk, fun c hc => bts_cg (f4 c hc) (fun k hk => by show (decide ((k : Int) < _) && cdN X (itN (prM X s) k r) s b c) = (decide ((k : Int) < _) && cdN X (itN (prM X s) k (r + 1)) s b c); rw [hcn]; by_cases q : (k : Int) < cnt (prM X s) r; (rw [itN_s q]); (rw [decide_eq_false q]; rfl))⟩))
