/-! THE CLASS: the first best rule; an audit opens -/
theorem bit_y {m k S S2 : Nat} {q : Nat → Bool} (hb : ∀ j, j < 4 → S.testBit j = (decide (j < k) && q j)) (hor : ∀ j, j < 4 → S2.testBit j = (S.testBit j || decide (j = k))) (hq : q k = true) : ∀ j, j < 4 → S2.testBit j = (decide (j < k + 1) && q j) := fun j hj => by
  rw [hor j hj, hb j hj]
  by_cases e : j = k
  · rw [e, decide_eq_true rfl, decide_eq_true (Nat.lt_succ_self k), hq]; simp
  · rw [decide_eq_false e, Bool.or_false]
    by_cases e2 : j < k
    · rw [decide_eq_true e2, decide_eq_true (show j < k + 1 by omega)]
    · rw [decide_eq_false e2, decide_eq_false (show ¬ j < k + 1 by omega)]
theorem bit_n {k S : Nat} {q : Nat → Bool} (hb : ∀ j, j < 4 → S.testBit j = (decide (j < k) && q j)) (hq : q k = false) : ∀ j, j < 4 → S.testBit j = (decide (j < k + 1) && q j) := fun j hj => by
  rw [hb j hj]
  by_cases e : j = k
  · rw [e, hq]; simp
  · by_cases e2 : j < k
    · rw [decide_eq_true e2, decide_eq_true (show j < k + 1 by omega)]
    · rw [decide_eq_false e2, decide_eq_false (show ¬ j < k + 1 by omega)]
set_option maxRecDepth 100000 in
set_option maxHeartbeats 4000000 in
theorem c_X0_shortRulesByTrial {g : Gt} {α : AL} {ν : Nat → Nat → Bool} {X : XM} {h : AH} (hT : TR g α ν X h) {m : Nat} {it : Nat → Nat} {nd : Nat → Int} {ft : Nat → Nat → Bool} (hA : AU X m it nd ft) (hm : m ≤ 4) (hnd : ∀ k, k < m → 1 ≤ nd k ∧ nd k ≤ 3) (hit : ∀ k, k < m → it k < 16) (hinc : ∀ k k2, k < k2 → k2 < m → it k < it k2) (hMC : MC X m (Rc m ft nd 0 0 20)) : Pr g M_X0_shortRulesByTrial 4 [.ref (α 17 0), .int (J (mx (Rc m ft nd 0 0 20)))] h (some (.int (J (lkV it (shQ m ft nd) m : Int)))) := by
  refine pr_of rfl rfl (ls := [some (.ref (α 17 0)), some (.int (J (mx (Rc m ft nd 0 0 20)))), none, none]) rfl (Nat.le_of_ble_eq_true rfl) ?_
  show Ev g M_X0_shortRulesByTrial 4 0 [some (.ref (α 17 0)), some (.int (J (mx (Rc m ft nd 0 0 20)))), none, none] [] h 0 0 (PQ (some (.int (J (lkV it (shQ m ft nd) m : Int)))) h)
  have a1 := hA.1
  have hvR := mx_R (m := m) (fit := ft) (rm := nd) (fr := 0) (fl := 0) (i := 20) hm (fun k hk => (hnd k hk).2) (by decide)
  refine tj_iconst 1 dX0_shortRulesByTrial_0 rfl ?_
  refine ev_ist2 2 dX0_shortRulesByTrial_1 rfl (by decide) rfl ?_
  refine tj_iconst 3 dX0_shortRulesByTrial_2 rfl ?_
  refine ev_ist3 4 dX0_shortRulesByTrial_3 rfl (by decide) rfl ?_
  have lp4 : ∀ (n4 : Nat) (k S : Nat) (z2 : Int) (z3 : Int) , 5 - k < n4 → (k ≤ m) → (S < 16) → ((∀ j, j < 4 → S.testBit j = (decide (j < k) && shQ m ft nd j))) → z2 = (S : Int) → z3 = (k : Int) → Ev g M_X0_shortRulesByTrial 4 4 [some (.ref (α 17 0)), some (.int (J (mx (Rc m ft nd 0 0 20)))), some (.int (J z2)), some (.int (J z3))] [] h 0 0 (PQ (some (.int (J (lkV it (shQ m ft nd) m : Int)))) h) := by
    intro n4
    induction n4 with
    | zero => intro k S z2 z3 hm; exact absurd hm (Nat.not_lt_zero _)
    | succ n4 ih4 =>
      intro k S z2 z3 hm4 hk hS hb e2 e3
      subst e2
      subst e3
      refine ev_ild3 5 dX0_shortRulesByTrial_4 rfl ?_
      refine ev_ald0 6 dX0_shortRulesByTrial_5 rfl ?_
      refine ev_getfield 9 3 0 fl_X0_40_3 (tr17 hT) rfl dX0_shortRulesByTrial_6 rfl ?_
      refine tj_icmp_ge 33 12 dX0_shortRulesByTrial_9 (by decide) rfl (by first | exact TR.rng hT _ _ _ | exact R31_of _ | exact bi_R _ | (constructor <;> omega)) (by first | exact TR.rng hT _ _ _ | exact R31_of _ | exact bi_R _ | (constructor <;> omega)) (fun c9 => ?_) (fun c9 => ?_)
      · skip
        refine ev_ald0 34 dX0_shortRulesByTrial_33 rfl ?_
        refine ev_ild2 35 dX0_shortRulesByTrial_34 rfl ?_
        refine tc_V1 38 3 dX0_shortRulesByTrial_35 lkv_X0_113 (tr17 hT) rfl rfl (by first | decide | omega) (Nat.le_of_ble_eq_true rfl) (c_X0_ruleBits hT hA hm hit hinc hS) ?_
        exact ev_ireturn (pq_i (by first | rfl | omega | exact bi_dt (by omega) | exact bi_df (by omega) | (exact congrArg (fun (z : Nat) => (z : Int)) (lkV_cg m (fun k hk => by show S.testBit k = _; rw [hb k (by omega), decide_eq_true (by omega)]; rfl))))) rfl dX0_shortRulesByTrial_38
      · skip
        have hkk : k < m := by omega
        have hmt := mt_one (fit := ft) hm hnd (i := 20) hkk
        have hmR := mx_R (m := m) (fit := ft) (rm := rm1 nd k) (fr := 0) (fl := 0) (i := 20) hm (fun j hj => Int.le_trans (rm1_le (m := m) k j hj) (hnd j hj).2) (by decide)
        have hor := or_1 hS (show k < 4 by omega)
        refine ev_ald0 13 dX0_shortRulesByTrial_12 rfl ?_
        refine ev_ild3 14 dX0_shortRulesByTrial_13 rfl ?_
        refine tc_V1 17 3 dX0_shortRulesByTrial_14 lkv_X0_122 (tr17 hT) rfl rfl (by first | decide | omega) (Nat.le_of_ble_eq_true rfl) (c_X0_mostTried hT hA hm hnd hMC (fun g q => dg0_R hm hnd q) (z := (k : Int)) (Or.inr ⟨k, hkk, rfl⟩) (g0 := 0) ⟨Rc_self 20, fun j e => by rw [dg_0]; have e2 : j = k := (by omega); rw [e2]; have := hnd k hkk; omega⟩) ?_
        refine ev_ild1 18 dX0_shortRulesByTrial_17 rfl ?_
        refine tj_icmp_ne 27 21 dX0_shortRulesByTrial_18 (by decide) rfl (by first | exact TR.rng hT _ _ _ | exact R31_of _ | exact bi_R _ | (constructor <;> omega)) (by first | exact TR.rng hT _ _ _ | exact R31_of _ | exact bi_R _ | (constructor <;> omega)) (fun c18 => ?_) (fun c18 => ?_)
        · skip
          obtain ⟨S9, hS9⟩ : ∃ S9 : Nat, (S : Int) = (S9 : Int) ∧ S9 < 16 ∧ (∀ j, j < 4 → S9.testBit j = (decide (j < k + 1) && shQ m ft nd j)) := ⟨S, rfl, hS, bit_n hb (decide_eq_false (fun z => c18 (hmt.trans z)))⟩
          refine tj_inc3 30 dX0_shortRulesByTrial_27 rfl (by decide) rfl ?_
          refine ev_goto 4 dX0_shortRulesByTrial_30 (by decide) ?_
          exact ih4 (k + 1) (S9) _ _ (by omega) (by first | omega | assumption | first | decide | exact hS9.2.1 | exact hS9.2.2 | (intro j hj; simp)) (by first | omega | assumption | first | decide | exact hS9.2.1 | exact hS9.2.2 | (intro j hj; simp)) (by first | omega | assumption | first | decide | exact hS9.2.1 | exact hS9.2.2 | (intro j hj; simp)) (by first | rfl | omega | (exact hS9.1)) (by first | rfl | omega | (exact hS9.1))
        · skip
          obtain ⟨S9, hS9⟩ : ∃ S9 : Nat, ((S ||| 1 <<< k : Nat) : Int) = (S9 : Int) ∧ S9 < 16 ∧ (∀ j, j < 4 → S9.testBit j = (decide (j < k + 1) && shQ m ft nd j)) := ⟨S ||| 1 <<< k, rfl, hor.1, bit_y (m := m) hb hor.2 (decide_eq_true (hmt.symm.trans c18))⟩
          refine ev_ild2 22 dX0_shortRulesByTrial_21 rfl ?_
          refine tj_iconst 23 dX0_shortRulesByTrial_22 rfl ?_
          refine ev_ild3 24 dX0_shortRulesByTrial_23 rfl ?_
          refine tj_ishl 25 dX0_shortRulesByTrial_24 1 k rfl rfl (by omega) rfl ?_
          refine tj_ior 26 dX0_shortRulesByTrial_25 S (1 <<< k) rfl rfl rfl ?_
          refine ev_ist2 27 dX0_shortRulesByTrial_26 rfl (by decide) rfl ?_
          refine tj_inc3 30 dX0_shortRulesByTrial_27 rfl (by decide) rfl ?_
          refine ev_goto 4 dX0_shortRulesByTrial_30 (by decide) ?_
          exact ih4 (k + 1) (S9) _ _ (by omega) (by first | omega | assumption | first | decide | exact hS9.2.1 | exact hS9.2.2 | (intro j hj; simp)) (by first | omega | assumption | first | decide | exact hS9.2.1 | exact hS9.2.2 | (intro j hj; simp)) (by first | omega | assumption | first | decide | exact hS9.2.1 | exact hS9.2.2 | (intro j hj; simp)) (by first | rfl | omega | (exact hS9.1)) (by first | rfl | omega | (exact hS9.1))
  exact lp4 _ (0) (0) _ _ (Nat.lt_succ_self _) (by first | omega | assumption | first | decide | exact hS9.2.1 | exact hS9.2.2 | (intro j hj; simp)) (by first | omega | assumption | first | decide | exact hS9.2.1 | exact hS9.2.2 | (intro j hj; simp)) (by first | omega | assumption | first | decide | exact hS9.2.1 | exact hS9.2.2 | (intro j hj; simp)) (by first | rfl | omega | (exact hS9.1)) (by first | rfl | omega | (exact hS9.1))
theorem nl_s {p : Nat → Prop} {k : Nat} (h : ∀ j, j < k → ¬ p j) (hk : ¬ p k) : ∀ j, j < k + 1 → ¬ p j := fun j hj => by
  by_cases e : j = k
  · rw [e]; exact hk
  · exact h j (by omega)
set_option maxRecDepth 100000 in
set_option maxHeartbeats 4000000 in
theorem c_X0_firstBestSlot {g : Gt} {α : AL} {ν : Nat → Nat → Bool} {X : XM} {h : AH} (hT : TR g α ν X h) {m : Nat} {it : Nat → Nat} {nd : Nat → Int} {ft : Nat → Nat → Bool} (hA : AU X m it nd ft) (hm : m ≤ 4) (hnd : ∀ k, k < m → 1 ≤ nd k ∧ nd k ≤ 3) {c fill : Nat} {v : Int} (hc : c < 20) (hv : 0 ≤ v ∧ v ≤ 12) (hf : fill < 256) (hz : ∀ k, m ≤ k → k < 4 → dg fill k = 0) (hRm : ∀ k, k < m → X 21 0 k = nd k - dg fill k) (hcap : ∀ k, k < m → (dg fill k : Int) ≤ nd k) : Mu g α ν M_X0_firstBestSlot 5 [.ref (α 17 0), .int (J (c : Int)), .int (J (v - nf fill))] h (some (.int (J (gsl m ft nd 20 v c fill m)))) (fun X' => (∀ kk, kk ≠ 21 → kk ≠ 22 → kk ≠ 23 → kk ≠ 24 → kk ≠ 25 → X' kk = X kk) ∧ ∀ k, k < m → X' 21 0 k = X 21 0 k) := by
  refine mu_of rfl rfl (ls := [some (.ref (α 17 0)), some (.int (J (c : Int))), some (.int (J (v - nf fill))), none, none]) rfl (Nat.le_of_ble_eq_true rfl) ?_
  show Ev g M_X0_firstBestSlot 5 0 [some (.ref (α 17 0)), some (.int (J (c : Int))), some (.int (J (v - nf fill))), none, none] [] h 0 0 (UQ g α ν (some (.int (J (gsl m ft nd 20 v c fill m)))) (fun X' => (∀ kk, kk ≠ 21 → kk ≠ 22 → kk ≠ 23 → kk ≠ 24 → kk ≠ 25 → X' kk = X kk) ∧ ∀ k, k < m → X' 21 0 k = X 21 0 k))
  have a1 := hA.1
  have hnf := nf_12 fill
  refine tj_iconst 1 dX0_firstBestSlot_0 rfl ?_
  refine ev_ist3 2 dX0_firstBestSlot_1 rfl (by decide) rfl ?_
  have lp2 : ∀ (n2 : Nat) (k : Nat) (z3 : Int) (o4 : Option Value) (h : AH) (X2 : XM), 5 - k < n2 → (k ≤ m) → (∀ j, j < k → ¬ gP m ft nd 20 v c fill j) → z3 = (k : Int) → TR g α ν X2 h → ((∀ kk, kk ≠ 21 → kk ≠ 22 → kk ≠ 23 → kk ≠ 24 → kk ≠ 25 → X2 kk = X kk) ∧ ∀ j, j < m → X2 21 0 j = X 21 0 j) → Ev g M_X0_firstBestSlot 5 2 [some (.ref (α 17 0)), some (.int (J (c : Int))), some (.int (J (v - nf fill))), some (.int (J z3)), o4] [] h 0 0 (UQ g α ν (some (.int (J (gsl m ft nd 20 v c fill m)))) (fun X' => (∀ kk, kk ≠ 21 → kk ≠ 22 → kk ≠ 23 → kk ≠ 24 → kk ≠ 25 → X' kk = X kk) ∧ ∀ k, k < m → X' 21 0 k = X 21 0 k)) := by
    intro n2
    induction n2 with
    | zero => intro k z3 o4 h X2 hm; exact absurd hm (Nat.not_lt_zero _)
    | succ n2 ih2 =>
      intro k z3 o4 h X2 hm2 hk hno e3 hT hI
      subst e3
      obtain ⟨f1, f2⟩ := hI
      have hA2 : AU X2 m it nd ft := AU_f hA f1
      have a12 := hA2.1
      refine ev_ild3 3 dX0_firstBestSlot_2 rfl ?_
      refine ev_ald0 4 dX0_firstBestSlot_3 rfl ?_
      refine ev_getfield 7 3 0 fl_X0_40_3 (tr17 hT) rfl dX0_firstBestSlot_4 rfl ?_
      refine tj_icmp_ge 81 10 dX0_firstBestSlot_7 (by decide) rfl (by first | exact TR.rng hT _ _ _ | exact R31_of _ | exact bi_R _ | (constructor <;> omega)) (by first | exact TR.rng hT _ _ _ | exact R31_of _ | exact bi_R _ | (constructor <;> omega)) (fun c7 => ?_) (fun c7 => ?_)
      · skip
        refine tj_iconst 82 dX0_firstBestSlot_81 rfl ?_
        exact ev_ireturn (uq_i (by first | rfl | omega | exact bi_dt (by omega) | exact bi_df (by omega) | (exact GZ_eq (GZ_no (fun j hj => hno j (by omega))) GZ_gsl)) hT (by exact ⟨f1, f2⟩)) rfl dX0_firstBestSlot_82
      · skip
        have hkk : k < m := by omega
        have hk21 := f2 k hkk
        have hkR := hRm k hkk
        have hkn := hnd k hkk
        have hkd := dg_le fill k
        refine ev_ald0 11 dX0_firstBestSlot_10 rfl ?_
        refine ev_ild1 12 dX0_firstBestSlot_11 rfl ?_
        refine ev_ild3 13 dX0_firstBestSlot_12 rfl ?_
        refine tc_V2 16 3 dX0_firstBestSlot_13 lkv_X0_109 (tr17 hT) rfl rfl (by first | decide | omega) (Nat.le_of_ble_eq_true rfl) (c_X0_isFit hT hA2 hm hc hkk) ?_
        refine tb_if_eq 75 19 dX0_firstBestSlot_16 (by decide) rfl (fun c16 => ?_) (fun c16 => ?_)
        · skip
          have hng : ¬ gP m ft nd 20 v c fill k := fun q => by rw [q.1] at c16; cases c16
          refine tj_inc3 78 dX0_firstBestSlot_75 rfl (by decide) rfl ?_
          refine ev_goto 2 dX0_firstBestSlot_78 (by decide) ?_
          exact ih2 (k + 1) _ _ _ _ (by omega) (by first | omega | assumption | first | exact fun j hj => absurd hj (Nat.not_lt_zero j) | exact nl_s hno hng) (by first | omega | assumption | first | exact fun j hj => absurd hj (Nat.not_lt_zero j) | exact nl_s hno hng) (by first | rfl | omega | (omega)) hT (by first | assumption | (first | exact ⟨fun _ _ _ _ _ _ => rfl, fun _ _ => rfl⟩ | exact ⟨f1, f2⟩ | exact hI5))
        · skip
          refine ev_ald0 20 dX0_firstBestSlot_19 rfl ?_
          refine ev_getfield 23 3 4 fl_X0_21_3 (tr17 hT) rfl dX0_firstBestSlot_20 rfl ?_
          refine ev_ild3 24 dX0_firstBestSlot_23 rfl ?_
          refine tv_iald 25 (tr21 hT) (k) (by omega) (by omega) (by omega) dX0_firstBestSlot_24 rfl ?_
          refine tj_if_le 75 28 dX0_firstBestSlot_25 (by decide) rfl (by first | exact TR.rng hT _ _ _ | exact R31_of _ | exact bi_R _ | (constructor <;> omega)) (fun c25 => ?_) (fun c25 => ?_)
          · skip
            have hng : ¬ gP m ft nd 20 v c fill k := fun q => by have := q.2.1; omega
            refine tj_inc3 78 dX0_firstBestSlot_75 rfl (by decide) rfl ?_
            refine ev_goto 2 dX0_firstBestSlot_78 (by decide) ?_
            exact ih2 (k + 1) _ _ _ _ (by omega) (by first | omega | assumption | first | exact fun j hj => absurd hj (Nat.not_lt_zero j) | exact nl_s hno hng) (by first | omega | assumption | first | exact fun j hj => absurd hj (Nat.not_lt_zero j) | exact nl_s hno hng) (by first | rfl | omega | (omega)) hT (by first | assumption | (first | exact ⟨fun _ _ _ _ _ _ => rfl, fun _ _ => rfl⟩ | exact ⟨f1, f2⟩ | exact hI5))
          · skip
            have hu := dg_up hf (show k < 4 by omega) (by omega)
            refine ev_ald0 29 dX0_firstBestSlot_28 rfl ?_
            refine ev_getfield 32 3 4 fl_X0_21_3 (tr17 hT) rfl dX0_firstBestSlot_29 rfl ?_
            refine ev_ild3 33 dX0_firstBestSlot_32 rfl ?_
            refine ev_dup2 34 dX0_firstBestSlot_33 rfl rfl rfl ?_
            refine tv_iald 35 (tr21 hT) (k) (by omega) (by omega) (by omega) dX0_firstBestSlot_34 rfl ?_
            refine tj_iconst 36 dX0_firstBestSlot_35 rfl ?_
            refine tj_isub 37 dX0_firstBestSlot_36 rfl ?_
            refine tv_iast 38 hT (tv21 hT) (fun _ => rfl) (k) (by omega) (by omega) (by omega) (by first | exact TR.rng hT _ _ _ | exact R31_of _ | exact bi_R _ | (constructor <;> omega)) dX0_firstBestSlot_37 rfl (fun h hT => ?_)
            obtain ⟨X3, hX3⟩ : ∃ Z, Z = xs X2 21 0 k (X2 21 0 k - 1) := ⟨_, rfl⟩
            rw [← hX3] at hT
            have f3 : (∀ kk, kk ≠ 21 → kk ≠ 22 → kk ≠ 23 → kk ≠ 24 → kk ≠ 25 → X3 kk = X kk) := fun kk q1 q2 q3 q4 q5 => by rw [hX3, xs_nk q1]; exact f1 kk q1 q2 q3 q4 q5
            have hA3 : AU X3 m it nd ft := AU_f hA f3
            have hr3 : ∀ j, j < m → X3 21 0 j = nd j - dg (up1 fill k) j := fun j hj => by rw [hX3, xs_at, hu.2 j (by omega)]; by_cases e : j = k; (rw [if_pos e, if_pos e, hk21, hkR, e]; omega); (rw [if_neg e, if_neg e, f2 j hj, hRm j hj]; omega)
            have hr0 : ∀ j, j < m → 0 ≤ X3 21 0 j := fun j hj => by rw [hX3, xs_at]; by_cases e : j = k; (rw [if_pos e]; omega); (rw [if_neg e, f2 j hj, hRm j hj]; have := hcap j hj; omega)
            refine tj_iconst 39 dX0_firstBestSlot_38 rfl ?_
            refine ev_ald0 40 dX0_firstBestSlot_39 rfl ?_
            refine ev_ild1 41 dX0_firstBestSlot_40 rfl ?_
            refine tj_iconst 42 dX0_firstBestSlot_41 rfl ?_
            refine tj_iadd 43 dX0_firstBestSlot_42 rfl ?_
            rw [show (c : Int) + 1 = ((c + 1 : Nat) : Int) by omega]
            refine te_V1 46 3 dX0_firstBestSlot_43 lkv_X0_93 (tr17 hT) rfl rfl (by first | decide | omega) (Nat.le_of_ble_eq_true rfl) (c_X0_giveFrom hT hA3 hm (fr := c + 1) (by omega) hr0) (fun h X1 v43 hT hP43 => ?_)
            obtain ⟨w1, w2⟩ := hP43
            have hmax := GS_max (nd := nd) (fill := up1 fill k) hm (show c + 1 ≤ 20 by omega) (fun j hj => (hnd j hj).2) hu.1 (fun j j1 j2 => by rw [hu.2 j j2, hz j j1 j2, if_neg (by omega)]) hr3 w2
            have hmx := mx_eq hmax
            have hnu := nf_up hf (show k < 4 by omega) (by omega)
            have hvc : v43 = cnt (fun c => decide (X1 23 0 c ≠ -1)) 20 := w2.2.2.2.2.1
            have hvR := cnt_0 (fun c => decide (X1 23 0 c ≠ -1)) 20
            have e21k : X1 21 0 k = X2 21 0 k - 1 := by rw [w1 21 (by decide) (by decide) (by decide) (by decide), hX3, xs_at, if_pos rfl]
            refine tj_iadd 47 dX0_firstBestSlot_46 rfl ?_
            refine ev_ild2 48 dX0_firstBestSlot_47 rfl ?_
            refine tj_icmp_ne 55 51 dX0_firstBestSlot_48 (by decide) rfl (by first | exact TR.rng hT _ _ _ | exact R31_of _ | exact bi_R _ | (constructor <;> omega)) (by first | exact TR.rng hT _ _ _ | exact R31_of _ | exact bi_R _ | (constructor <;> omega)) (fun c48 => ?_) (fun c48 => ?_)
            · skip
              have hng : ¬ gP m ft nd 20 v c fill k := fun q => by have := q.2.2; omega
              refine tj_iconst 56 dX0_firstBestSlot_55 rfl ?_
              refine ev_ist4 58 dX0_firstBestSlot_56 rfl (by decide) rfl ?_
              refine ev_ald0 59 dX0_firstBestSlot_58 rfl ?_
              refine ev_getfield 62 3 4 fl_X0_21_3 (tr17 hT) rfl dX0_firstBestSlot_59 rfl ?_
              refine ev_ild3 63 dX0_firstBestSlot_62 rfl ?_
              refine ev_dup2 64 dX0_firstBestSlot_63 rfl rfl rfl ?_
              refine tv_iald 65 (tr21 hT) (k) (by omega) (by omega) (by omega) dX0_firstBestSlot_64 rfl ?_
              refine tj_iconst 66 dX0_firstBestSlot_65 rfl ?_
              refine tj_iadd 67 dX0_firstBestSlot_66 rfl ?_
              refine tv_iast 68 hT (tv21 hT) (fun _ => rfl) (k) (by omega) (by omega) (by omega) (by first | exact TR.rng hT _ _ _ | exact R31_of _ | exact bi_R _ | (constructor <;> omega)) dX0_firstBestSlot_67 rfl (fun h hT => ?_)
              obtain ⟨X5, hX5⟩ : ∃ Z, Z = xs X1 21 0 k (X1 21 0 k + 1) := ⟨_, rfl⟩
              rw [← hX5] at hT
              have hI5 : (∀ kk, kk ≠ 21 → kk ≠ 22 → kk ≠ 23 → kk ≠ 24 → kk ≠ 25 → X5 kk = X kk) ∧ ∀ j, j < m → X5 21 0 j = X 21 0 j := ⟨fun kk q1 q2 q3 q4 q5 => by rw [hX5, xs_nk q1, w1 kk q2 q3 q4 q5]; exact f3 kk q1 q2 q3 q4 q5, fun j hj => by have e21 := w1 21 (by decide) (by decide) (by decide) (by decide); rw [hX5, xs_at, e21, hX3, xs_at, xs_at]; by_cases e : j = k; (rw [if_pos e, if_pos rfl, e, hk21]; omega); (rw [if_neg e, if_neg e]; exact f2 j hj)⟩
              refine ev_ild4 70 dX0_firstBestSlot_68 rfl ?_
              refine tj_if_eq 75 73 dX0_firstBestSlot_70 (by decide) rfl (by first | exact TR.rng hT _ _ _ | exact R31_of _ | exact bi_R _ | (constructor <;> omega)) (fun c70 => ?_) (fun c70 => ?_)
              · skip
                refine tj_inc3 78 dX0_firstBestSlot_75 rfl (by decide) rfl ?_
                refine ev_goto 2 dX0_firstBestSlot_78 (by decide) ?_
                exact ih2 (k + 1) _ _ _ _ (by omega) (by first | omega | assumption | first | exact fun j hj => absurd hj (Nat.not_lt_zero j) | exact nl_s hno hng) (by first | omega | assumption | first | exact fun j hj => absurd hj (Nat.not_lt_zero j) | exact nl_s hno hng) (by first | rfl | omega | (omega)) hT (by first | assumption | (first | exact ⟨fun _ _ _ _ _ _ => rfl, fun _ _ => rfl⟩ | exact ⟨f1, f2⟩ | exact hI5))
              · exact False.elim (by omega)
            · skip
              have hy : gP m ft nd 20 v c fill k := ⟨c16, by omega, by omega⟩
              refine tj_iconst 52 dX0_firstBestSlot_51 rfl ?_
              refine ev_goto 56 dX0_firstBestSlot_52 (by decide) ?_
              refine ev_ist4 58 dX0_firstBestSlot_56 rfl (by decide) rfl ?_
              refine ev_ald0 59 dX0_firstBestSlot_58 rfl ?_
              refine ev_getfield 62 3 4 fl_X0_21_3 (tr17 hT) rfl dX0_firstBestSlot_59 rfl ?_
              refine ev_ild3 63 dX0_firstBestSlot_62 rfl ?_
              refine ev_dup2 64 dX0_firstBestSlot_63 rfl rfl rfl ?_
              refine tv_iald 65 (tr21 hT) (k) (by omega) (by omega) (by omega) dX0_firstBestSlot_64 rfl ?_
              refine tj_iconst 66 dX0_firstBestSlot_65 rfl ?_
              refine tj_iadd 67 dX0_firstBestSlot_66 rfl ?_
              refine tv_iast 68 hT (tv21 hT) (fun _ => rfl) (k) (by omega) (by omega) (by omega) (by first | exact TR.rng hT _ _ _ | exact R31_of _ | exact bi_R _ | (constructor <;> omega)) dX0_firstBestSlot_67 rfl (fun h hT => ?_)
              obtain ⟨X5, hX5⟩ : ∃ Z, Z = xs X1 21 0 k (X1 21 0 k + 1) := ⟨_, rfl⟩
              rw [← hX5] at hT
              have hI5 : (∀ kk, kk ≠ 21 → kk ≠ 22 → kk ≠ 23 → kk ≠ 24 → kk ≠ 25 → X5 kk = X kk) ∧ ∀ j, j < m → X5 21 0 j = X 21 0 j := ⟨fun kk q1 q2 q3 q4 q5 => by rw [hX5, xs_nk q1, w1 kk q2 q3 q4 q5]; exact f3 kk q1 q2 q3 q4 q5, fun j hj => by have e21 := w1 21 (by decide) (by decide) (by decide) (by decide); rw [hX5, xs_at, e21, hX3, xs_at, xs_at]; by_cases e : j = k; (rw [if_pos e, if_pos rfl, e, hk21]; omega); (rw [if_neg e, if_neg e]; exact f2 j hj)⟩
              refine ev_ild4 70 dX0_firstBestSlot_68 rfl ?_
              refine tj_if_eq 75 73 dX0_firstBestSlot_70 (by decide) rfl (by first | exact TR.rng hT _ _ _ | exact R31_of _ | exact bi_R _ | (constructor <;> omega)) (fun c70 => ?_) (fun c70 => ?_)
              · exact False.elim (by omega)
              · skip
                refine ev_ild3 74 dX0_firstBestSlot_73 rfl ?_
                exact ev_ireturn (uq_i (by first | rfl | omega | exact bi_dt (by omega) | exact bi_df (by omega) | (exact GZ_eq (GZ_at hkk hy hno) GZ_gsl)) hT (by exact hI5)) rfl dX0_firstBestSlot_74
  exact lp2 _ (0) _ _ _ _ (Nat.lt_succ_self _) (by first | omega | assumption | first | exact fun j hj => absurd hj (Nat.not_lt_zero j) | exact nl_s hno hng) (by first | omega | assumption | first | exact fun j hj => absurd hj (Nat.not_lt_zero j) | exact nl_s hno hng) (by first | rfl | omega | (omega)) hT (by first | assumption | (first | exact ⟨fun _ _ _ _ _ _ => rfl, fun _ _ => rfl⟩ | exact ⟨f1, f2⟩ | exact hI5))
set_option maxRecDepth 100000 in
set_option maxHeartbeats 4000000 in
theorem c_X0_firstBestRule {g : Gt} {α : AL} {ν : Nat → Nat → Bool} {X : XM} {h : AH} (hT : TR g α ν X h) {m : Nat} {it : Nat → Nat} {nd : Nat → Int} {ft : Nat → Nat → Bool} (hA : AU X m it nd ft) (hm : m ≤ 4) (hnd : ∀ k, k < m → 1 ≤ nd k ∧ nd k ≤ 3) {c0 : Nat} (hc0 : c0 < 20) {v0 : Int} (hv0 : v0 = mx (Rc m ft nd 0 0 20)) (hit : ∀ k, k < m → it k < 16) : Mu g α ν M_X0_firstBestRule 6 [.ref (α 17 0), .int (J (c0 : Int))] h (some (.int (J (if gsl m ft nd 20 v0 c0 (gfl m ft nd 20 v0 c0) m = -1 then -1 else (it (gsl m ft nd 20 v0 c0 (gfl m ft nd 20 v0 c0) m).toNat : Int))))) (fun X' => (∀ kk, kk ≠ 21 → kk ≠ 22 → kk ≠ 23 → kk ≠ 24 → kk ≠ 25 → X' kk = X kk)) := by
  refine mu_of rfl rfl (ls := [some (.ref (α 17 0)), some (.int (J (c0 : Int))), none, none, none]) rfl (Nat.le_of_ble_eq_true rfl) ?_
  show Ev g M_X0_firstBestRule 6 0 [some (.ref (α 17 0)), some (.int (J (c0 : Int))), none, none, none] [] h 0 0 (UQ g α ν (some (.int (J (if gsl m ft nd 20 v0 c0 (gfl m ft nd 20 v0 c0) m = -1 then -1 else (it (gsl m ft nd 20 v0 c0 (gfl m ft nd 20 v0 c0) m).toNat : Int))))) (fun X' => (∀ kk, kk ≠ 21 → kk ≠ 22 → kk ≠ 23 → kk ≠ 24 → kk ≠ 25 → X' kk = X kk)))
  have a1 := hA.1
  have hvR := mx_R (m := m) (fit := ft) (rm := nd) (fr := 0) (fl := 0) (i := 20) hm (fun k hk => (hnd k hk).2) (by decide)
  rw [← hv0] at hvR
  have hnd0 := fun k (hk : k < m) => (⟨by have := hnd k hk; omega, (hnd k hk).2⟩ : 0 ≤ nd k ∧ nd k ≤ 3)
  refine ev_ald0 1 dX0_firstBestRule_0 rfl ?_
  refine te_V0 4 3 dX0_firstBestRule_1 lkv_X0_136 (tr17 hT) rfl rfl (by first | decide | omega) (Nat.le_of_ble_eq_true rfl) (c_X0_giveAll hT hA hm hnd) (fun h X1 v1 hT hP1 => ?_)
  obtain ⟨w1, w2, w3⟩ := hP1
  have hmax := GS_max (nd := nd) (fill := 0) hm (show 0 ≤ 20 by omega) (fun j hj => (hnd j hj).2) (by decide) (fun j _ _ => dg_0 j) (fun j hj => by rw [w2 j hj, dg_0]; omega) w3
  have hmx := mx_eq hmax
  have e0 : (nf 0 : Int) = 0 := by decide
  have hv1 : v1 = v0 - nf (gfl m ft nd 20 v0 0) := by rw [hv0]; show v1 = mx (Rc m ft nd 0 0 (20 - 0)) - nf 0; omega
  rw [hv1]
  have hI0 : (∀ kk, kk ≠ 21 → kk ≠ 22 → kk ≠ 23 → kk ≠ 24 → kk ≠ 25 → X1 kk = X kk) ∧ ∀ k, k < m → X1 21 0 k = nd k - dg (gfl m ft nd 20 v0 0) k := ⟨w1, fun k hk => by rw [w2 k hk]; show nd k = nd k - dg 0 k; rw [dg_0]; omega⟩
  refine ev_ist2 5 dX0_firstBestRule_4 rfl (by decide) rfl ?_
  refine tj_iconst 6 dX0_firstBestRule_5 rfl ?_
  refine ev_ist3 7 dX0_firstBestRule_6 rfl (by decide) rfl ?_
  refine tj_iconst 8 dX0_firstBestRule_7 rfl ?_
  refine ev_ist4 10 dX0_firstBestRule_8 rfl (by decide) rfl ?_
  have lp10 : ∀ (n10 : Nat) (c : Nat) (z : Int) (z2 : Int) (z3 : Int) (z4 : Int)  (h : AH) (X2 : XM), c0 + 2 - c < n10 → (c ≤ c0 + 1) → ((c = 0 ∧ z = -1) ∨ ∃ c1, c = c1 + 1 ∧ z = gsl m ft nd 20 v0 c1 (gfl m ft nd 20 v0 c1) m) → z2 = v0 - nf (gfl m ft nd 20 v0 c) → z3 = z → z4 = (c : Int) → TR g α ν X2 h → ((∀ kk, kk ≠ 21 → kk ≠ 22 → kk ≠ 23 → kk ≠ 24 → kk ≠ 25 → X2 kk = X kk) ∧ ∀ k, k < m → X2 21 0 k = nd k - dg (gfl m ft nd 20 v0 c) k) → Ev g M_X0_firstBestRule 6 10 [some (.ref (α 17 0)), some (.int (J (c0 : Int))), some (.int (J z2)), some (.int (J z3)), some (.int (J z4))] [] h 0 0 (UQ g α ν (some (.int (J (if gsl m ft nd 20 v0 c0 (gfl m ft nd 20 v0 c0) m = -1 then -1 else (it (gsl m ft nd 20 v0 c0 (gfl m ft nd 20 v0 c0) m).toNat : Int))))) (fun X' => (∀ kk, kk ≠ 21 → kk ≠ 22 → kk ≠ 23 → kk ≠ 24 → kk ≠ 25 → X' kk = X kk))) := by
    intro n10
    induction n10 with
    | zero => intro c z z2 z3 z4 h X2 hm; exact absurd hm (Nat.not_lt_zero _)
    | succ n10 ih10 =>
      intro c z z2 z3 z4 h X2 hm10 hc9 hz e2 e3 e4 hT hI
      subst e2
      subst e3
      subst e4
      obtain ⟨f1, f2⟩ := hI
      have hA2 : AU X2 m it nd ft := AU_f hA f1
      have gR := gfl_R (fit := ft) (n := 20) (v := v0) hm hnd0 c
      have hnf := nf_12 (gfl m ft nd 20 v0 c)
      have hzR : -1 ≤ z3 ∧ z3 < 4 := by rcases hz with ⟨-, q⟩ | ⟨c1, -, q⟩; omega; (have q2 := gsl_p (m := m) (fit := ft) (nd := nd) (n := 20) (v := v0) (c := c1) (fill := gfl m ft nd 20 v0 c1) m; rcases q2 with ⟨e, -⟩ | ⟨k, e, h1, -⟩ <;> omega)
      refine ev_ild4 12 dX0_firstBestRule_10 rfl ?_
      refine ev_ild1 13 dX0_firstBestRule_12 rfl ?_
      refine tj_icmp_gt 48 16 dX0_firstBestRule_13 (by decide) rfl (by first | exact TR.rng hT _ _ _ | exact R31_of _ | exact bi_R _ | (constructor <;> omega)) (by first | exact TR.rng hT _ _ _ | exact R31_of _ | exact bi_R _ | (constructor <;> omega)) (fun c13 => ?_) (fun c13 => ?_)
      · skip
        obtain ⟨c1, hc1, hz1⟩ := hz.resolve_left (fun q => by omega)
        obtain rfl : c1 = c0 := by omega
        refine ev_ild3 49 dX0_firstBestRule_48 rfl ?_
        refine tj_iconst 50 dX0_firstBestRule_49 rfl ?_
        refine tj_icmp_ne 57 53 dX0_firstBestRule_50 (by decide) rfl (by first | exact TR.rng hT _ _ _ | exact R31_of _ | exact bi_R _ | (constructor <;> omega)) (by first | exact TR.rng hT _ _ _ | exact R31_of _ | exact bi_R _ | (constructor <;> omega)) (fun c50 => ?_) (fun c50 => ?_)
        · skip
          have hgp := gsl_p (m := m) (fit := ft) (nd := nd) (n := 20) (v := v0) (c := c1) (fill := gfl m ft nd 20 v0 c1) m
          rw [← hz1] at hgp
          obtain ⟨k, hk, hkm, -, -⟩ := hgp.resolve_left (fun q => c50 q.1)
          refine ev_ald0 58 dX0_firstBestRule_57 rfl ?_
          refine ev_getfield 61 3 1 fl_X0_11_3 (tr17 hT) rfl dX0_firstBestRule_58 rfl ?_
          refine ev_ild3 62 dX0_firstBestRule_61 rfl ?_
          refine tv_iald 63 (tr18 hT) (k) (by omega) (by omega) (by omega) dX0_firstBestRule_62 rfl ?_
          exact ev_ireturn (uq_i (by first | rfl | omega | exact bi_dt (by omega) | exact bi_df (by omega) | (first | (rw [← hz1, if_pos c50]; done) | (rw [← hz1, if_neg c50, hk, Int.toNat_natCast]; exact (hA2.2.1 k hkm).1) | (rw [if_neg (by rw [← hz1]; omega), ← hz1, Int.toNat_natCast]; exact (hA2.2.1 k hkm).1))) hT (by exact f1)) rfl dX0_firstBestRule_63
        · skip
          refine tj_iconst 54 dX0_firstBestRule_53 rfl ?_
          refine ev_goto 63 dX0_firstBestRule_54 (by decide) ?_
          exact ev_ireturn (uq_i (by first | rfl | omega | exact bi_dt (by omega) | exact bi_df (by omega) | (first | (rw [← hz1, if_pos c50]; done) | (rw [← hz1, if_neg c50, hk, Int.toNat_natCast]; exact (hA2.2.1 k hkm).1) | (rw [if_neg (by rw [← hz1]; omega), ← hz1, Int.toNat_natCast]; exact (hA2.2.1 k hkm).1))) hT (by exact f1)) rfl dX0_firstBestRule_63
      · skip
        refine ev_ald0 17 dX0_firstBestRule_16 rfl ?_
        refine ev_ild4 19 dX0_firstBestRule_17 rfl ?_
        refine ev_ild2 20 dX0_firstBestRule_19 rfl ?_
        refine tm_V2 23 3 dX0_firstBestRule_20 lkv_X0_139 (tr17 hT) rfl rfl (by first | decide | omega) (Nat.le_of_ble_eq_true rfl) (c_X0_firstBestSlot hT hA2 hm hnd (c := c) (fill := gfl m ft nd 20 v0 c) (v := v0) (by omega) hvR gR.1 gR.2.2 f2 gR.2.1) (fun h X1 hT hP20 => ?_)
        obtain ⟨w1, w2⟩ := hP20
        have f3 : (∀ kk, kk ≠ 21 → kk ≠ 22 → kk ≠ 23 → kk ≠ 24 → kk ≠ 25 → X1 kk = X kk) := fun kk q1 q2 q3 q4 q5 => by rw [w1 kk q1 q2 q3 q4 q5]; exact f1 kk q1 q2 q3 q4 q5
        have hgp := gsl_p (m := m) (fit := ft) (nd := nd) (n := 20) (v := v0) (c := c) (fill := gfl m ft nd 20 v0 c) m
        obtain ⟨z9, hz9⟩ : ∃ z9 : Int, z9 = gsl m ft nd 20 v0 c (gfl m ft nd 20 v0 c) m := ⟨_, rfl⟩
        rw [← hz9] at hgp ⊢
        have hz9R : -1 ≤ z9 ∧ z9 < 4 := by rcases hgp with ⟨e, -⟩ | ⟨k, e, h1, -⟩ <;> omega
        have f1k : AU X1 m it nd ft := AU_f hA f3
        refine ev_ist3 24 dX0_firstBestRule_23 rfl (by decide) rfl ?_
        refine ev_ild3 25 dX0_firstBestRule_24 rfl ?_
        refine tj_iconst 26 dX0_firstBestRule_25 rfl ?_
        refine tj_icmp_eq 42 29 dX0_firstBestRule_26 (by decide) rfl (by first | exact TR.rng hT _ _ _ | exact R31_of _ | exact bi_R _ | (constructor <;> omega)) (by first | exact TR.rng hT _ _ _ | exact R31_of _ | exact bi_R _ | (constructor <;> omega)) (fun c26 => ?_) (fun c26 => ?_)
        · skip
          have hg1 : gfl m ft nd 20 v0 (c + 1) = gfl m ft nd 20 v0 c := by rw [gfl, if_pos (by rw [← hz9]; exact c26)]
          have hlf : v0 - (nf (gfl m ft nd 20 v0 c) : Int) = v0 - nf (gfl m ft nd 20 v0 (c + 1)) := by rw [hg1]
          have hI9 : (∀ kk, kk ≠ 21 → kk ≠ 22 → kk ≠ 23 → kk ≠ 24 → kk ≠ 25 → X1 kk = X kk) ∧ ∀ j, j < m → X1 21 0 j = nd j - dg (gfl m ft nd 20 v0 (c + 1)) j := ⟨f3, fun j hj => by rw [hg1, w2 j hj]; exact f2 j hj⟩
          refine tj_inc4 45 dX0_firstBestRule_42 rfl (by decide) rfl ?_
          refine ev_goto 10 dX0_firstBestRule_45 (by decide) ?_
          exact ih10 (c + 1) (_) _ _ _ _ _ (by omega) (by first | omega | assumption | first | exact Or.inl ⟨rfl, rfl⟩ | exact Or.inr ⟨c, rfl, rfl⟩) (by first | omega | assumption | first | exact Or.inl ⟨rfl, rfl⟩ | exact Or.inr ⟨c, rfl, rfl⟩) (by first | rfl | omega | (first | omega | exact hlf)) (by first | rfl | omega | (first | omega | exact hlf)) (by first | rfl | omega | (first | omega | exact hlf)) hT (by first | assumption | (first | exact hI0 | exact hI9))
        · skip
          obtain ⟨k, hk, hkm, hgk, -⟩ := hgp.resolve_left (fun q => c26 q.1)
          have hkn := hnd k hkm
          have e21k := w2 k hkm
          have e21j := f2 k hkm
          have hdk := hgk.2.1
          have hu := dg_up gR.1 (show k < 4 by omega) (by omega)
          have hnu := nf_up gR.1 (show k < 4 by omega) (by omega)
          have hg1 : gfl m ft nd 20 v0 (c + 1) = up1 (gfl m ft nd 20 v0 c) k := by rw [gfl, if_neg (by rw [← hz9]; exact c26), ← hz9, hk, Int.toNat_natCast]
          have hlf : v0 - (nf (gfl m ft nd 20 v0 c) : Int) + -1 = v0 - nf (gfl m ft nd 20 v0 (c + 1)) := by rw [hg1, hnu]; omega
          rw [hk]
          rw [hk] at hz9
          refine ev_ald0 30 dX0_firstBestRule_29 rfl ?_
          refine ev_getfield 33 3 4 fl_X0_21_3 (tr17 hT) rfl dX0_firstBestRule_30 rfl ?_
          refine ev_ild3 34 dX0_firstBestRule_33 rfl ?_
          refine ev_dup2 35 dX0_firstBestRule_34 rfl rfl rfl ?_
          first | refine tv_iald 36 (tr21 hT) _ rfl (by omega) (by omega) dX0_firstBestRule_35 rfl ?_ | refine tv_iald 36 (tr21 hT) (Int.toNat _) (by omega) (by omega) (by omega) dX0_firstBestRule_35 rfl ?_
          refine tj_iconst 37 dX0_firstBestRule_36 rfl ?_
          refine tj_isub 38 dX0_firstBestRule_37 rfl ?_
          refine tv_iast 39 hT (tv21 hT) (fun _ => rfl) (k) (by omega) (by omega) (by omega) (by first | exact TR.rng hT _ _ _ | exact R31_of _ | exact bi_R _ | (constructor <;> omega)) dX0_firstBestRule_38 rfl (fun h hT => ?_)
          obtain ⟨X5, hX5⟩ : ∃ Z, Z = xs X1 21 0 k (X1 21 0 k - 1) := ⟨_, rfl⟩
          rw [← hX5] at hT
          have hI9 : (∀ kk, kk ≠ 21 → kk ≠ 22 → kk ≠ 23 → kk ≠ 24 → kk ≠ 25 → X5 kk = X kk) ∧ ∀ j, j < m → X5 21 0 j = nd j - dg (gfl m ft nd 20 v0 (c + 1)) j := ⟨fun kk q1 q2 q3 q4 q5 => by rw [hX5, xs_nk q1]; exact f3 kk q1 q2 q3 q4 q5, fun j hj => by rw [hg1, hX5, xs_at, hu.2 j (by omega)]; by_cases e : j = k; (rw [if_pos e, if_pos e, w2 k hkm, f2 k hkm, e]; omega); (rw [if_neg e, if_neg e, w2 j hj, f2 j hj]; omega)⟩
          refine tj_inc2 42 dX0_firstBestRule_39 rfl (by decide) rfl ?_
          refine tj_inc4 45 dX0_firstBestRule_42 rfl (by decide) rfl ?_
          refine ev_goto 10 dX0_firstBestRule_45 (by decide) ?_
          exact ih10 (c + 1) (_) _ _ _ _ _ (by omega) (by first | omega | assumption | first | exact Or.inl ⟨rfl, rfl⟩ | exact Or.inr ⟨c, rfl, rfl⟩) (by first | omega | assumption | first | exact Or.inl ⟨rfl, rfl⟩ | exact Or.inr ⟨c, rfl, rfl⟩) (by first | rfl | omega | (first | omega | exact hlf)) (by first | rfl | omega | (first | omega | exact hlf)) (by first | rfl | omega | (first | omega | exact hlf)) hT (by first | assumption | (first | exact hI0 | exact hI9))
  exact lp10 _ (0) (-1) _ _ _ _ _ (Nat.lt_succ_self _) (by first | omega | assumption | first | exact Or.inl ⟨rfl, rfl⟩ | exact Or.inr ⟨c, rfl, rfl⟩) (by first | omega | assumption | first | exact Or.inl ⟨rfl, rfl⟩ | exact Or.inr ⟨c, rfl, rfl⟩) (by first | rfl | omega | (first | omega | exact hlf)) (by first | rfl | omega | (first | omega | exact hlf)) (by first | rfl | omega | (first | omega | exact hlf)) hT (by first | assumption | (first | exact hI0 | exact hI9))
