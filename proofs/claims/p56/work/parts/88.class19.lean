/-! THE CLASS: the first best rule; an audit opens -/
theorem bit_y {m k S S2 : Nat} {q : Nat → Bool} (hb : ∀ j, j < 4 → S.testBit j = (decide (j < k) && q j)) (hor : ∀ j, j < 4 → S2.testBit j = (S.testBit j || decide (j = k))) (hq : q k = true) : ∀ j, j < 4 → S2.testBit j = (decide (j < k + 1) && q j) := fun j hj => by
  rw [hor j hj, hb j hj]
  by_cases e : j = k
  · rw [e, decide_eq_true rfl, decide_eq_true (Nat.lt_succ_self k), hq]; simp
  · rw [decide_eq_false e, Bool.or_false]
    by_cases e2 : j < k
    · rw [decide_eq_true e2, decide_eq_true (show j < k + 1 by omega)]
    · rw [decide_eq_false e2, decide_eq_false (show ¬ j < k + 1 by omega)]
theorem bit_n {k S : Nat} {q : Nat → Bool} (hb : ∀ j, j < 4 → S.testBit j = (decide (j < k) && q j)) (hq : q k = false) : ∀ j, j < 4 → S.testBit j = (decide (j < k + 1) && q j) := fun j hj => by
  rw [hb j hj]
  by_cases e : j = k
  · rw [e, hq]; simp
  · by_cases e2 : j < k
    · rw [decide_eq_true e2, decide_eq_true (show j < k + 1 by omega)]
    · rw [decide_eq_false e2, decide_eq_false (show ¬ j < k + 1 by omega)]
set_option maxRecDepth 100000 in
set_option maxHeartbeats 4000000 in
theorem c_X0_shortRulesByTrial {g : Gt} {α : AL} {ν : Nat → Nat → Bool} {X : XM} {h : AH} (hT : TR g α ν X h) {m : Nat} {it : Nat → Nat} {nd : Nat → Int} {ft : Nat → Nat → Bool} (hA : AU X m it nd ft) (hm : m ≤ 4) (hnd : ∀ k, k < m → 1 ≤ nd k ∧ nd k ≤ 3) (hit : ∀ k, k < m → it k < 16) (hinc : ∀ k k2, k < k2 → k2 < m → it k < it k2) (hMC : MC X m (Rc m ft nd 0 0 20)) : Pr g M_X0_shortRulesByTrial 4 [.ref (α 17 0), .int (J (mx (Rc m ft nd 0 0 20)))] h (some (.int (J (lkV it (shQ m ft nd) m : Int)))) := by
  refine pr_of rfl rfl (ls := [some (.ref (α 17 0)), some (.int (J (mx (Rc m ft nd 0 0 20)))), none, none]) rfl (Nat.le_of_ble_eq_true rfl) ?_
  show Ev g M_X0_shortRulesByTrial 4 0 [some (.ref (α 17 0)), some (.int (J (mx (Rc m ft nd 0 0 20)))), none, none] [] h 0 0 (PQ (some (.int (J (lkV it (shQ m ft nd) m : Int)))) h)
  have a1 := hA.1
  have hvR := mx_R (m := m) (fit := ft) (rm := nd) (fr := 0) (fl := 0) (i := 20) hm (fun k hk => (hnd k hk).2) (by decide)
  refine tj_iconst 1 dX0_shortRulesByTrial_0 rfl ?_
  refine ev_ist2 2 dX0_shortRulesByTrial_1 rfl (by decide) rfl ?_
  refine tj_iconst 3 dX0_shortRulesByTrial_2 rfl ?_
  refine ev_ist3 4 dX0_shortRulesByTrial_3 rfl (by decide) rfl ?_
  have lp4 : ∀ (n4 : Nat) (k S : Nat) (z2 : Int) (z3 : Int) , 5 - k < n4 → (k ≤ m) → (S < 16) → ((∀ j, j < 4 → S.testBit j = (decide (j < k) && shQ m ft nd j))) → z2 = (S : Int) → z3 = (k : Int) → Ev g M_X0_shortRulesByTrial 4 4 [some (.ref (α 17 0)), some (.int (J (mx (Rc m ft nd 0 0 20)))), some (.int (J z2)), some (.int (J z3))] [] h 0 0 (PQ (some (.int (J (lkV it (shQ m ft nd) m : Int)))) h) := by
    intro n4
    induction n4 with
    | zero => intro k S z2 z3 hm; exact absurd hm (Nat.not_lt_zero _)
    | succ n4 ih4 =>
      intro k S z2 z3 hm4 hk hS hb e2 e3
      subst e2
      subst e3
      refine ev_ild3 5 dX0_shortRulesByTrial_4 rfl ?_
      refine ev_ald0 6 dX0_shortRulesByTrial_5 rfl ?_
      refine ev_getfield 9 3 0 fl_X0_40_3 (tr17 hT) rfl dX0_shortRulesByTrial_6 rfl ?_
      refine tj_icmp_ge 33 12 dX0_shortRulesByTrial_9 (by decide) rfl (by first | exact TR.rng hT _ _ _ | exact R31_of _ | exact bi_R _ | (constructor <;> omega)) (by first | exact TR.rng hT _ _ _ | exact R31_of _ | exact bi_R _ | (constructor <;> omega)) (fun c9 => ?_) (fun c9 => ?_)
      · skip
        refine ev_ald0 34 dX0_shortRulesByTrial_33 rfl ?_
        refine ev_ild2 35 dX0_shortRulesByTrial_34 rfl ?_
        refine tc_V1 38 3 dX0_shortRulesByTrial_35 lkv_X0_113 (tr17 hT) rfl rfl (by first | decide | omega) (Nat.le_of_ble_eq_true rfl) (c_X0_ruleBits hT hA hm hit hinc hS) ?_
        exact ev_ireturn (pq_i (by first | rfl | omega | exact bi_dt (by omega) | exact bi_df (by omega) | (exact congrArg (fun (z : Nat) => (z : Int)) (lkV_cg m (fun k hk => by show S.testBit k = _; rw [hb k (by omega), decide_eq_true (by omega)]; rfl))))) rfl dX0_shortRulesByTrial_38
      · skip
        have hkk : k < m := by omega
        have hmt := mt_one (fit := ft) hm hnd (i := 20) hkk
        have hmR := mx_R (m := m) (fit := ft) (rm := rm1 nd k) (fr := 0) (fl := 0) (i := 20) hm (fun j hj => Int.le_trans (rm1_le (m := m) k j hj) (hnd j hj).2) (by decide)
        have hor := or_1 hS (show k < 4 by omega)
        refine ev_ald0 13 dX0_shortRulesByTrial_12 rfl ?_
        refine ev_ild3 14 dX0_shortRulesByTrial_13 rfl ?_
        refine tc_V1 17 3 dX0_shortRulesByTrial_14 lkv_X0_122 (tr17 hT) rfl rfl (by first | decide | omega) (Nat.le_of_ble_eq_true rfl) (c_X0_mostTried hT hA hm hnd hMC (fun g q => dg0_R hm hnd q) (z := (k : Int)) (Or.inr ⟨k, hkk, rfl⟩) (g0 := 0) ⟨Rc_self 20, fun j e => by rw [dg_0]; have e2 : j = k := (by omega); rw [e2]; have := hnd k hkk; omega⟩) ?_
        refine ev_ild1 18 dX0_shortRulesByTrial_17 rfl ?_
        refine tj_icmp_ne 27 21 dX0_shortRulesByTrial_18 (by decide) rfl (by first | exact TR.rng hT _ _ _ | exact R31_of _ | exact bi_R _ | (constructor <;> omega)) (by first | exact TR.rng hT _ _ _ | exact R31_of _ | exact bi_R _ | (constructor <;> omega)) (fun c18 => ?_) (fun c18 => ?_)
        · skip
          obtain ⟨S9, hS9⟩ : ∃ S9 : Nat, (S : Int) = (S9 : Int) ∧ S9 < 16 ∧ (∀ j, j < 4 → S9.testBit j = (decide (j < k + 1) && shQ m ft nd j)) := ⟨S, rfl, hS, bit_n hb (decide_eq_false (fun z => c18 (hmt.trans z)))⟩
          refine tj_inc3 30 dX0_shortRulesByTrial_27 rfl (by decide) rfl ?_
          refine ev_goto 4 dX0_shortRulesByTrial_30 (by decide) ?_
          exact ih4 (k + 1) (S9) _ _ (by omega) (by first | omega | assumption | first | decide | exact hS9.2.1 | exact hS9.2.2 | (intro j hj; simp)) (by first | omega | assumption | first | decide | exact hS9.2.1 | exact hS9.2.2 | (intro j hj; simp)) (by first | omega | assumption | first | decide | exact hS9.2.1 | exact hS9.2.2 | (intro j hj; simp)) (by first | rfl | omega | (exact hS9.1)) (by first | rfl | omega | (exact hS9.1))
        · skip
          obtain ⟨S9, hS9⟩ : ∃ S9 : Nat, ((S ||| 1 <<< k : Nat) : Int) = (S9 : Int) ∧ S9 < 16 ∧ (∀ j, j < 4 → S9.testBit j = (decide (j < k + 1) && shQ m ft nd j)) := ⟨S ||| 1 <<< k, rfl, hor.1, bit_y (m := m) hb hor.2 (decide_eq_true (hmt.symm.trans c18))⟩
          refine ev_ild2 22 dX0_shortRulesByTrial_21 rfl ?_
          refine tj_iconst 23 dX0_shortRulesByTrial_22 rfl ?_
          refine ev_ild3 24 dX0_shortRulesByTrial_23 rfl ?_
          refine tj_ishl 25 dX0_shortRulesByTrial_24 1 k rfl rfl (by omega) rfl ?_
          refine tj_ior 26 dX0_shortRulesByTrial_25 S (1 <<< k) rfl rfl rfl ?_
          refine ev_ist2 27 dX0_shortRulesByTrial_26 rfl (by decide) rfl ?_
          refine tj_inc3 30 dX0_shortRulesByTrial_27 rfl (by decide) rfl ?_
          refine ev_goto 4 dX0_shortRulesByTrial_30 (by decide) ?_
          exact ih4 (k + 1) (S9) _ _ (by omega) (by first | omega | assumption | first | decide | exact hS9.2.1 | exact hS9.2.2 | (intro j hj; simp)) (by first | omega | assumption | first | decide | exact hS9.2.1 | exact hS9.2.2 | (intro j hj; simp)) (by first | omega | assumption | first | decide | exact hS9.2.1 | exact hS9.2.2 | (intro j hj; simp)) (by first | rfl | omega | (exact hS9.1)) (by first | rfl | omega | (exact hS9.1))
  exact lp4 _ (0) (0) _ _ (Nat.lt_succ_self _) (by first | omega | assumption | first | decide | exact hS9.2.1 | exact hS9.2.2 | (intro j hj; simp)) (by first | omega | assumption | first | decide | exact hS9.2.1 | exact hS9.2.2 | (intro j hj; simp)) (by first | omega | assumption | first | decide | exact hS9.2.1 | exact hS9.2.2 | (intro j hj; simp)) (by first | rfl | omega | (exact hS9.1)) (by first | rfl | omega | (exact hS9.1))
