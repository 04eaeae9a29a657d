/-! THE LAW ASKS -/
set_option maxRecDepth 100000 in
theorem c_L_best {g : Gt} {α : AL} {ν : Nat → Nat → Bool} {X : XM} {h : AH} (hT : TR g α ν X h) (hW : WX ν X) (hO : OFF X) {s : Nat} (hs : s < 5) {c : Nat} (hc : c < 5) : Ct g M_L_best 29 [.ref (α 0 0), .int (J (s : Int)), .int (J (c : Int))] h 1 6 (PQ (some (.int (J (X 8 s c)))) h) := by
  obtain ⟨eC, eS, eF⟩ := id hO
  refine ct_of_evH rfl rfl (ls := [some (.ref (α 0 0)), some (.int (J (s : Int))), some (.int (J (c : Int))), none]) rfl (Nat.le_of_ble_eq_true rfl) ?_
  show Ev g M_L_best 29 0 [some (.ref (α 0 0)), some (.int (J (s : Int))), some (.int (J (c : Int))), none] [] h (1 + 0) (6 + 0) (PQ (some (.int (J (X 8 s c)))) h)
  refine ev_ald0 1 dL_best_0 rfl ?_
  refine ev_ild1 2 dL_best_1 rfl ?_
  refine ev_ild2 3 dL_best_2 rfl ?_
  by_cases q : X 8 s c = -1
  · refine tz_V2 6 13 dL_best_3 lkv_L_9 (tr0 hT) rfl rfl (by decide) (Nat.le_of_ble_eq_true rfl) (c_X11_bestMark_x2 hT hW (by omega) (by omega) q) ?_
    refine xv_catch (name := "java/util/NoSuchElementException") [] [] rfl (fun z hz => by cases hz) ⟨by decide, by decide⟩ (by decide) clL_15 cas_NoSuchElementException (fun q => ?_)
    refine ev_ast3 8 dL_best_7 rfl (by decide) rfl ?_
    refine tj_iconst 9 dL_best_8 rfl ?_
    exact ev_ireturn (pq_i (by omega)) rfl dL_best_9
  · refine tc_V2 6 13 dL_best_3 lkv_L_9 (tr0 hT) rfl rfl (by decide) (Nat.le_of_ble_eq_true rfl) (c_X11_bestMark_ok hT hW (by omega) (by omega) q) ?_
    exact ev_ireturn (pq_i rfl) rfl dL_best_6
set_option maxRecDepth 100000 in
theorem c_L_place {g : Gt} {α : AL} {ν : Nat → Nat → Bool} {X : XM} {h : AH} (hT : TR g α ν X h) (hW : WX ν X) (hO : OFF X) {s : Nat} (hs : s < 5) {c : Nat} (hc : c < 5) : Ct g M_L_place 29 [.ref (α 0 0), .int (J (s : Int)), .int (J (c : Int))] h 1 6 (PQ (some (.int (J (place X c s)))) h) := by
  obtain ⟨eC, eS, eF⟩ := id hO
  refine ct_of_evH rfl rfl (ls := [some (.ref (α 0 0)), some (.int (J (s : Int))), some (.int (J (c : Int))), none]) rfl (Nat.le_of_ble_eq_true rfl) ?_
  show Ev g M_L_place 29 0 [some (.ref (α 0 0)), some (.int (J (s : Int))), some (.int (J (c : Int))), none] [] h (1 + 0) (6 + 0) (PQ (some (.int (J (place X c s)))) h)
  refine ev_ald0 1 dL_place_0 rfl ?_
  refine ev_ild1 2 dL_place_1 rfl ?_
  refine ev_ild2 3 dL_place_2 rfl ?_
  by_cases q : place X c s = -1
  · refine tz_V2 6 13 dL_place_3 lkv_L_34 (tr0 hT) rfl rfl (by decide) (Nat.le_of_ble_eq_true rfl) (c_X11_placeOf_x2 hT hW (by omega) (by omega) q) ?_
    refine xv_catch (name := "java/util/NoSuchElementException") [] [] rfl (fun z hz => by cases hz) ⟨by decide, by decide⟩ (by decide) clL_15 cas_NoSuchElementException (fun q => ?_)
    refine ev_ast3 8 dL_place_7 rfl (by decide) rfl ?_
    refine tj_iconst 9 dL_place_8 rfl ?_
    exact ev_ireturn (pq_i (by omega)) rfl dL_place_9
  · refine tc_V2 6 13 dL_place_3 lkv_L_34 (tr0 hT) rfl rfl (by decide) (Nat.le_of_ble_eq_true rfl) (c_X11_placeOf_ok hT hW (by omega) (by omega) q) ?_
    exact ev_ireturn (pq_i rfl) rfl dL_place_6
theorem tl_45 {X : XM} (h : TLD X) {c : Nat} (hc : c < 5) : X 45 0 c = X 12 c 5 := (h.1 c hc).1
theorem tl_46 {X : XM} (h : TLD X) {c : Nat} (hc : c < 5) : X 46 0 c = X 12 c 1 := (h.1 c hc).2.1
theorem tl_47 {X : XM} (h : TLD X) {c : Nat} (hc : c < 5) : X 47 0 c = X 12 c 2 := (h.1 c hc).2.2.1
theorem tl_48 {X : XM} (h : TLD X) {c m : Nat} (hc : c < 5) (hm : m < 4) : X 48 0 (4 * c + m) = X 13 c m := (h.1 c hc).2.2.2.1 m hm
theorem tl_sum {X : XM} (h : TLD X) {c : Nat} (hc : c < 5) : X 13 c 0 + X 13 c 1 + X 13 c 2 + X 13 c 3 ≤ X 12 c 2 := (h.1 c hc).2.2.2.2
theorem tl_49 {X : XM} (h : TLD X) {s : Nat} (hs : s < 5) : X 49 0 s = X 4 s 0 := h.2.1 s hs
/-- whom 'of' counts -/
def ofP (X : XM) (c : Nat) (m : Int) (k : Nat) : Bool := tak X k c && (decide (m < 0) || decide (X 4 k 0 = m))
theorem ofP_enr {X : XM} (hS : nS X = 5) (c : Nat) {m : Int} (hm : m < 0) : cnt (ofP X c m) 5 = enr X c := by
  unfold enr
  rw [hS]
  exact cnt_cg 5 (fun j _ => by unfold ofP; rw [decide_eq_true hm, Bool.true_or, Bool.and_true])
theorem ofP_maj {X : XM} (hS : nS X = 5) (c : Nat) {m : Int} (hm : 0 ≤ m) : cnt (ofP X c m) 5 = enrM X c m := by
  unfold enrM
  rw [hS]
  exact cnt_cg 5 (fun j _ => by unfold ofP; rw [decide_eq_false (by omega), Bool.false_or])
theorem mx0 (a : Int) : (if 0 < a then a else 0) = (if a < 0 then 0 else a) := by split <;> split <;> omega
set_option maxRecDepth 100000 in
set_option maxHeartbeats 4000000 in
theorem c_X12_load {g : Gt} {α : AL} {ν : Nat → Nat → Bool} {X : XM} {h : AH} (hT : TR g α ν X h) (hW : WX ν X) (hO : OFF X) (hTL : TLD X) {s : Nat} (hs : s < 5)  : Ct g M_X12_load 29 [.ref (α 40 0), .ref (α 0 0), .int (J (s : Int))] h 0 0 (PQ (some (.int (J (load X s)))) h) := by
  refine ct_of_ev rfl rfl (ls := [some (.ref (α 40 0)), some (.ref (α 0 0)), some (.int (J (s : Int))), none, none]) rfl (Nat.le_of_ble_eq_true rfl) ?_
  show Ev g M_X12_load 29 0 [some (.ref (α 40 0)), some (.ref (α 0 0)), some (.int (J (s : Int))), none, none] [] h 0 0 (PQ (some (.int (J (load X s)))) h)
  obtain ⟨eC, eS, eF⟩ := id hO
  have qc := wo_crd hW.1
  refine tj_iconst 1 dX12_load_0 rfl ?_
  refine ev_ist3 2 dX12_load_1 rfl (by decide) rfl ?_
  refine tj_iconst 3 dX12_load_2 rfl ?_
  refine ev_ist4 5 dX12_load_3 rfl (by decide) rfl ?_
  have lp5 : ∀ (n5 : Nat) (c : Nat) (z3 : Int) (z4 : Int) , 6 - c < n5 → (c ≤ 5) → z3 = crS X (tak X s) c → z4 = (c : Int) → Ev g M_X12_load 29 5 [some (.ref (α 40 0)), some (.ref (α 0 0)), some (.int (J (s : Int))), some (.int (J z3)), some (.int (J z4))] [] h (0) (0) (PQ (some (.int (J (load X s)))) h) := by
    intro n5
    induction n5 with
    | zero => intro c z3 z4 hm; exact absurd hm (Nat.not_lt_zero _)
    | succ n5 ih5 =>
      intro c z3 z4 hm5  hc e3 e4
      subst e3
      subst e4
      have qk := crS_0 hW.1 (tak X s) c (by omega)
      refine ev_ild4 7 dX12_load_5 rfl ?_
      refine tj_iconst 8 dX12_load_7 rfl ?_
      refine tj_icmp_ge 41 11 dX12_load_8 (by decide) rfl (by first | exact TR.rng hT _ _ _ | exact R31_of _ | exact bi_R _ | assumption | (constructor <;> omega)) (by first | exact TR.rng hT _ _ _ | exact R31_of _ | exact bi_R _ | assumption | (constructor <;> omega)) (fun c8 => ?_) (fun c8 => ?_)
      · skip
        refine ev_ild3 42 dX12_load_41 rfl ?_
        exact ev_ireturn (pq_i (by first | rfl | omega | exact bi_dt (by omega) | exact bi_df (by omega) | (unfold load; rw [show c = (nC X).toNat by omega]))) rfl dX12_load_42
      · skip
        refine ev_ild3 12 dX12_load_11 rfl ?_
        refine ev_ald1 13 dX12_load_12 rfl ?_
        refine ev_ild2 14 dX12_load_13 rfl ?_
        refine ev_ild4 16 dX12_load_14 rfl ?_
        refine tc_V2 19 13 dX12_load_16 lkv_X12_43 (tr0 hT) rfl rfl (by first | decide | omega) (Nat.le_of_ble_eq_true rfl) (c_X11_isEnrolled_ok hT hW (by omega) (by omega)) ?_
        refine tb_if_eq 32 22 dX12_load_19 (by decide) rfl (fun c19 => ?_) (fun c19 => ?_)
        · skip
          refine tj_iconst 33 dX12_load_32 rfl ?_
          refine tj_iadd 34 dX12_load_33 rfl ?_
          refine ev_ist3 35 dX12_load_34 rfl (by decide) rfl ?_
          refine tj_inc4 38 dX12_load_35 rfl (by decide) rfl ?_
          refine ev_goto 5 dX12_load_38 (by decide) ?_
          exact ev_mono (by omega) (by omega) (ih5 (c + 1) _ _ (by omega) (by first | omega | assumption | omega) (by first | rfl | omega | (first | (rw [crS_s, if_pos c19, tl_46 hTL (by omega)]; done) | (rw [crS_s, if_neg (by rw [c19]; decide)]; done))) (by first | rfl | omega | (first | (rw [crS_s, if_pos c19, tl_46 hTL (by omega)]; done) | (rw [crS_s, if_neg (by rw [c19]; decide)]; done))))
        · skip
          refine ev_ald0 23 dX12_load_22 rfl ?_
          refine ev_getfield 26 14 5 fl_X12_25_14 (tr40 hT) rfl dX12_load_23 rfl ?_
          refine ev_ild4 28 dX12_load_26 rfl ?_
          refine tv_iald 29 (tr46 hT) (c) (by omega) (by omega) (by omega) dX12_load_28 rfl ?_
          refine ev_goto 33 dX12_load_29 (by decide) ?_
          refine tj_iadd 34 dX12_load_33 rfl ?_
          refine ev_ist3 35 dX12_load_34 rfl (by decide) rfl ?_
          refine tj_inc4 38 dX12_load_35 rfl (by decide) rfl ?_
          refine ev_goto 5 dX12_load_38 (by decide) ?_
          exact ev_mono (by omega) (by omega) (ih5 (c + 1) _ _ (by omega) (by first | omega | assumption | omega) (by first | rfl | omega | (first | (rw [crS_s, if_pos c19, tl_46 hTL (by omega)]; done) | (rw [crS_s, if_neg (by rw [c19]; decide)]; done))) (by first | rfl | omega | (first | (rw [crS_s, if_pos c19, tl_46 hTL (by omega)]; done) | (rw [crS_s, if_neg (by rw [c19]; decide)]; done))))
  exact ev_mono (by omega) (by omega) (lp5 _ (0) _ _ (Nat.lt_succ_self _) (by first | omega | assumption | omega) (by first | rfl | omega | (first | (rw [crS_s, if_pos c19, tl_46 hTL (by omega)]; done) | (rw [crS_s, if_neg (by rw [c19]; decide)]; done))) (by first | rfl | omega | (first | (rw [crS_s, if_pos c19, tl_46 hTL (by omega)]; done) | (rw [crS_s, if_neg (by rw [c19]; decide)]; done))))
set_option maxRecDepth 100000 in
set_option maxHeartbeats 4000000 in
theorem c_X12_earned {g : Gt} {α : AL} {ν : Nat → Nat → Bool} {X : XM} {h : AH} (hT : TR g α ν X h) (hW : WX ν X) (hO : OFF X) (hTL : TLD X) {s : Nat} (hs : s < 5)  : Ct g M_X12_earned 30 [.ref (α 40 0), .ref (α 0 0), .int (J (s : Int))] h 5 30 (PQ (some (.int (J (ernd X s)))) h) := by
  refine ct_of_ev rfl rfl (ls := [some (.ref (α 40 0)), some (.ref (α 0 0)), some (.int (J (s : Int))), none, none]) rfl (Nat.le_of_ble_eq_true rfl) ?_
  show Ev g M_X12_earned 30 0 [some (.ref (α 40 0)), some (.ref (α 0 0)), some (.int (J (s : Int))), none, none] [] h 5 30 (PQ (some (.int (J (ernd X s)))) h)
  obtain ⟨eC, eS, eF⟩ := id hO
  have qc := wo_crd hW.1
  refine tj_iconst 1 dX12_earned_0 rfl ?_
  refine ev_ist3 2 dX12_earned_1 rfl (by decide) rfl ?_
  refine tj_iconst 3 dX12_earned_2 rfl ?_
  refine ev_ist4 5 dX12_earned_3 rfl (by decide) rfl ?_
  have lp5 : ∀ (n5 : Nat) (c : Nat) (z3 : Int) (z4 : Int) , 6 - c < n5 → (c ≤ 5) → z3 = crS X (psd X s) c → z4 = (c : Int) → Ev g M_X12_earned 30 5 [some (.ref (α 40 0)), some (.ref (α 0 0)), some (.int (J (s : Int))), some (.int (J z3)), some (.int (J z4))] [] h (1 * (5 - c)) (6 * (5 - c)) (PQ (some (.int (J (ernd X s)))) h) := by
    intro n5
    induction n5 with
    | zero => intro c z3 z4 hm; exact absurd hm (Nat.not_lt_zero _)
    | succ n5 ih5 =>
      intro c z3 z4 hm5  hc e3 e4
      subst e3
      subst e4
      have qk := crS_0 hW.1 (psd X s) c (by omega)
      refine ev_ild4 7 dX12_earned_5 rfl ?_
      refine tj_iconst 8 dX12_earned_7 rfl ?_
      refine tj_icmp_ge 43 11 dX12_earned_8 (by decide) rfl (by first | exact TR.rng hT _ _ _ | exact R31_of _ | exact bi_R _ | assumption | (constructor <;> omega)) (by first | exact TR.rng hT _ _ _ | exact R31_of _ | exact bi_R _ | assumption | (constructor <;> omega)) (fun c8 => ?_) (fun c8 => ?_)
      · skip
        refine ev_ild3 44 dX12_earned_43 rfl ?_
        exact ev_ireturn (pq_i (by first | rfl | omega | exact bi_dt (by omega) | exact bi_df (by omega) | (unfold ernd; rw [show c = (nC X).toNat by omega]))) rfl dX12_earned_44
      · skip
        refine ev_ild3 12 dX12_earned_11 rfl ?_
        refine ev_ald1 13 dX12_earned_12 rfl ?_
        refine ev_ild2 14 dX12_earned_13 rfl ?_
        refine ev_ild4 16 dX12_earned_14 rfl ?_
        refine tp_SNH (1 * (5 - (c + 1))) (6 * (5 - (c + 1))) 19 dX12_earned_16 lnh_X12_37 (c_L_best hT hW hO (by omega) (by omega)) (by first | decide | omega) rfl rfl (Nat.le_of_ble_eq_true rfl) rfl (by omega) (by omega) ?_
        refine tj_bipush 21 dX12_earned_19 (by decide) rfl ?_
        refine tj_icmp_lt 34 24 dX12_earned_21 (by decide) rfl (by first | exact TR.rng hT _ _ _ | exact R31_of _ | exact bi_R _ | assumption | (constructor <;> omega)) (by first | exact TR.rng hT _ _ _ | exact R31_of _ | exact bi_R _ | assumption | (constructor <;> omega)) (fun c21 => ?_) (fun c21 => ?_)
        · skip
          refine tj_iconst 35 dX12_earned_34 rfl ?_
          refine tj_iadd 36 dX12_earned_35 rfl ?_
          refine ev_ist3 37 dX12_earned_36 rfl (by decide) rfl ?_
          refine tj_inc4 40 dX12_earned_37 rfl (by decide) rfl ?_
          refine ev_goto 5 dX12_earned_40 (by decide) ?_
          exact ev_mono (by omega) (by omega) (ih5 (c + 1) _ _ (by omega) (by first | omega | assumption | omega) (by first | rfl | omega | (first | (rw [crS_s, if_pos (show psd X s c = true from decide_eq_true (by omega)), tl_46 hTL (by omega)]; done) | (rw [crS_s, if_neg (by unfold psd; rw [decide_eq_false (by omega)]; decide)]; done))) (by first | rfl | omega | (first | (rw [crS_s, if_pos (show psd X s c = true from decide_eq_true (by omega)), tl_46 hTL (by omega)]; done) | (rw [crS_s, if_neg (by unfold psd; rw [decide_eq_false (by omega)]; decide)]; done))))
        · skip
          refine ev_ald0 25 dX12_earned_24 rfl ?_
          refine ev_getfield 28 14 5 fl_X12_25_14 (tr40 hT) rfl dX12_earned_25 rfl ?_
          refine ev_ild4 30 dX12_earned_28 rfl ?_
          refine tv_iald 31 (tr46 hT) (c) (by omega) (by omega) (by omega) dX12_earned_30 rfl ?_
          refine ev_goto 35 dX12_earned_31 (by decide) ?_
          refine tj_iadd 36 dX12_earned_35 rfl ?_
          refine ev_ist3 37 dX12_earned_36 rfl (by decide) rfl ?_
          refine tj_inc4 40 dX12_earned_37 rfl (by decide) rfl ?_
          refine ev_goto 5 dX12_earned_40 (by decide) ?_
          exact ev_mono (by omega) (by omega) (ih5 (c + 1) _ _ (by omega) (by first | omega | assumption | omega) (by first | rfl | omega | (first | (rw [crS_s, if_pos (show psd X s c = true from decide_eq_true (by omega)), tl_46 hTL (by omega)]; done) | (rw [crS_s, if_neg (by unfold psd; rw [decide_eq_false (by omega)]; decide)]; done))) (by first | rfl | omega | (first | (rw [crS_s, if_pos (show psd X s c = true from decide_eq_true (by omega)), tl_46 hTL (by omega)]; done) | (rw [crS_s, if_neg (by unfold psd; rw [decide_eq_false (by omega)]; decide)]; done))))
  exact ev_mono (by omega) (by omega) (lp5 _ (0) _ _ (Nat.lt_succ_self _) (by first | omega | assumption | omega) (by first | rfl | omega | (first | (rw [crS_s, if_pos (show psd X s c = true from decide_eq_true (by omega)), tl_46 hTL (by omega)]; done) | (rw [crS_s, if_neg (by unfold psd; rw [decide_eq_false (by omega)]; decide)]; done))) (by first | rfl | omega | (first | (rw [crS_s, if_pos (show psd X s c = true from decide_eq_true (by omega)), tl_46 hTL (by omega)]; done) | (rw [crS_s, if_neg (by unfold psd; rw [decide_eq_false (by omega)]; decide)]; done))))
set_option maxRecDepth 100000 in
set_option maxHeartbeats 4000000 in
theorem c_X12_of {g : Gt} {α : AL} {ν : Nat → Nat → Bool} {X : XM} {h : AH} (hT : TR g α ν X h) (hW : WX ν X) (hO : OFF X) (hTL : TLD X) {c : Nat} (hc : c < 5) {m : Int} (hm : -1 ≤ m ∧ m ≤ 3)  : Ct g M_X12_of 29 [.ref (α 40 0), .ref (α 0 0), .int (J (c : Int)), .int (J m)] h 0 0 (PQ (some (.int (J (cnt (ofP X c m) 5)))) h) := by
  refine ct_of_ev rfl rfl (ls := [some (.ref (α 40 0)), some (.ref (α 0 0)), some (.int (J (c : Int))), some (.int (J m)), none, none]) rfl (Nat.le_of_ble_eq_true rfl) ?_
  show Ev g M_X12_of 29 0 [some (.ref (α 40 0)), some (.ref (α 0 0)), some (.int (J (c : Int))), some (.int (J m)), none, none] [] h 0 0 (PQ (some (.int (J (cnt (ofP X c m) 5)))) h)
  obtain ⟨eC, eS, eF⟩ := id hO
  refine tj_iconst 1 dX12_of_0 rfl ?_
  refine ev_ist4 3 dX12_of_1 rfl (by decide) rfl ?_
  refine tj_iconst 4 dX12_of_3 rfl ?_
  refine ev_ist5 6 dX12_of_4 rfl (by decide) rfl ?_
  have lp6 : ∀ (n6 : Nat) (k : Nat) (z4 : Int) (z5 : Int) , 6 - k < n6 → (k ≤ 5) → z4 = cnt (ofP X c m) k → z5 = (k : Int) → Ev g M_X12_of 29 6 [some (.ref (α 40 0)), some (.ref (α 0 0)), some (.int (J (c : Int))), some (.int (J m)), some (.int (J z4)), some (.int (J z5))] [] h (0) (0) (PQ (some (.int (J (cnt (ofP X c m) 5)))) h) := by
    intro n6
    induction n6 with
    | zero => intro k z4 z5 hm; exact absurd hm (Nat.not_lt_zero _)
    | succ n6 ih6 =>
      intro k z4 z5 hm6  hk e4 e5
      subst e4
      subst e5
      have qk := cnt_0 (ofP X c m) k
      refine ev_ild5 8 dX12_of_6 rfl ?_
      refine tj_iconst 9 dX12_of_8 rfl ?_
      refine tj_icmp_ge 53 12 dX12_of_9 (by decide) rfl (by first | exact TR.rng hT _ _ _ | exact R31_of _ | exact bi_R _ | assumption | (constructor <;> omega)) (by first | exact TR.rng hT _ _ _ | exact R31_of _ | exact bi_R _ | assumption | (constructor <;> omega)) (fun c9 => ?_) (fun c9 => ?_)
      · skip
        refine ev_ild4 55 dX12_of_53 rfl ?_
        exact ev_ireturn (pq_i (by first | rfl | omega | exact bi_dt (by omega) | exact bi_df (by omega) | (rw [show k = 5 by omega]))) rfl dX12_of_55
      · skip
        refine ev_ild4 14 dX12_of_12 rfl ?_
        refine ev_ald1 15 dX12_of_14 rfl ?_
        refine ev_ild5 17 dX12_of_15 rfl ?_
        refine ev_ild2 18 dX12_of_17 rfl ?_
        refine tc_V2 21 13 dX12_of_18 lkv_X12_43 (tr0 hT) rfl rfl (by first | decide | omega) (Nat.le_of_ble_eq_true rfl) (c_X11_isEnrolled_ok hT hW (by omega) (by omega)) ?_
        refine tb_if_eq 43 24 dX12_of_21 (by decide) rfl (fun c21 => ?_) (fun c21 => ?_)
        · skip
          refine tj_iconst 44 dX12_of_43 rfl ?_
          refine tj_iadd 45 dX12_of_44 rfl ?_
          refine ev_ist4 47 dX12_of_45 rfl (by decide) rfl ?_
          refine tj_inc5 50 dX12_of_47 rfl (by decide) rfl ?_
          refine ev_goto 6 dX12_of_50 (by decide) ?_
          exact ev_mono (by omega) (by omega) (ih6 (k + 1) _ _ (by omega) (by first | omega | assumption | omega) (by first | rfl | omega | (first | (rw [cnt_s, if_neg (by unfold ofP; rw [c21, Bool.false_and]; decide)]; done) | (rw [cnt_s, if_pos (by unfold ofP; rw [c21, decide_eq_true (by omega)]; rfl)]; done) | (rw [cnt_s, if_pos (by unfold ofP; rw [c21, ← tl_49 hTL (by omega), decide_eq_true c36, Bool.or_true]; rfl)]; done) | (rw [cnt_s, if_neg (by unfold ofP; rw [c21, ← tl_49 hTL (by omega), decide_eq_false c36, decide_eq_false (by omega)]; decide)]; done))) (by first | rfl | omega | (first | (rw [cnt_s, if_neg (by unfold ofP; rw [c21, Bool.false_and]; decide)]; done) | (rw [cnt_s, if_pos (by unfold ofP; rw [c21, decide_eq_true (by omega)]; rfl)]; done) | (rw [cnt_s, if_pos (by unfold ofP; rw [c21, ← tl_49 hTL (by omega), decide_eq_true c36, Bool.or_true]; rfl)]; done) | (rw [cnt_s, if_neg (by unfold ofP; rw [c21, ← tl_49 hTL (by omega), decide_eq_false c36, decide_eq_false (by omega)]; decide)]; done))))
        · skip
          refine ev_ild3 25 dX12_of_24 rfl ?_
          refine tj_if_lt 39 28 dX12_of_25 (by decide) rfl (by first | exact TR.rng hT _ _ _ | exact R31_of _ | exact bi_R _ | assumption | (constructor <;> omega)) (fun c25 => ?_) (fun c25 => ?_)
          · skip
            refine tj_iconst 40 dX12_of_39 rfl ?_
            refine ev_goto 44 dX12_of_40 (by decide) ?_
            refine tj_iadd 45 dX12_of_44 rfl ?_
            refine ev_ist4 47 dX12_of_45 rfl (by decide) rfl ?_
            refine tj_inc5 50 dX12_of_47 rfl (by decide) rfl ?_
            refine ev_goto 6 dX12_of_50 (by decide) ?_
            exact ev_mono (by omega) (by omega) (ih6 (k + 1) _ _ (by omega) (by first | omega | assumption | omega) (by first | rfl | omega | (first | (rw [cnt_s, if_neg (by unfold ofP; rw [c21, Bool.false_and]; decide)]; done) | (rw [cnt_s, if_pos (by unfold ofP; rw [c21, decide_eq_true (by omega)]; rfl)]; done) | (rw [cnt_s, if_pos (by unfold ofP; rw [c21, ← tl_49 hTL (by omega), decide_eq_true c36, Bool.or_true]; rfl)]; done) | (rw [cnt_s, if_neg (by unfold ofP; rw [c21, ← tl_49 hTL (by omega), decide_eq_false c36, decide_eq_false (by omega)]; decide)]; done))) (by first | rfl | omega | (first | (rw [cnt_s, if_neg (by unfold ofP; rw [c21, Bool.false_and]; decide)]; done) | (rw [cnt_s, if_pos (by unfold ofP; rw [c21, decide_eq_true (by omega)]; rfl)]; done) | (rw [cnt_s, if_pos (by unfold ofP; rw [c21, ← tl_49 hTL (by omega), decide_eq_true c36, Bool.or_true]; rfl)]; done) | (rw [cnt_s, if_neg (by unfold ofP; rw [c21, ← tl_49 hTL (by omega), decide_eq_false c36, decide_eq_false (by omega)]; decide)]; done))))
          · skip
            refine ev_ald0 29 dX12_of_28 rfl ?_
            refine ev_getfield 32 14 8 fl_X12_34_14 (tr40 hT) rfl dX12_of_29 rfl ?_
            refine ev_ild5 34 dX12_of_32 rfl ?_
            refine tv_iald 35 (tr49 hT) (k) (by omega) (by omega) (by omega) dX12_of_34 rfl ?_
            refine ev_ild3 36 dX12_of_35 rfl ?_
            refine tj_icmp_ne 43 39 dX12_of_36 (by decide) rfl (by first | exact TR.rng hT _ _ _ | exact R31_of _ | exact bi_R _ | assumption | (constructor <;> omega)) (by first | exact TR.rng hT _ _ _ | exact R31_of _ | exact bi_R _ | assumption | (constructor <;> omega)) (fun c36 => ?_) (fun c36 => ?_)
            · skip
              refine tj_iconst 44 dX12_of_43 rfl ?_
              refine tj_iadd 45 dX12_of_44 rfl ?_
              refine ev_ist4 47 dX12_of_45 rfl (by decide) rfl ?_
              refine tj_inc5 50 dX12_of_47 rfl (by decide) rfl ?_
              refine ev_goto 6 dX12_of_50 (by decide) ?_
              exact ev_mono (by omega) (by omega) (ih6 (k + 1) _ _ (by omega) (by first | omega | assumption | omega) (by first | rfl | omega | (first | (rw [cnt_s, if_neg (by unfold ofP; rw [c21, Bool.false_and]; decide)]; done) | (rw [cnt_s, if_pos (by unfold ofP; rw [c21, decide_eq_true (by omega)]; rfl)]; done) | (rw [cnt_s, if_pos (by unfold ofP; rw [c21, ← tl_49 hTL (by omega), decide_eq_true c36, Bool.or_true]; rfl)]; done) | (rw [cnt_s, if_neg (by unfold ofP; rw [c21, ← tl_49 hTL (by omega), decide_eq_false c36, decide_eq_false (by omega)]; decide)]; done))) (by first | rfl | omega | (first | (rw [cnt_s, if_neg (by unfold ofP; rw [c21, Bool.false_and]; decide)]; done) | (rw [cnt_s, if_pos (by unfold ofP; rw [c21, decide_eq_true (by omega)]; rfl)]; done) | (rw [cnt_s, if_pos (by unfold ofP; rw [c21, ← tl_49 hTL (by omega), decide_eq_true c36, Bool.or_true]; rfl)]; done) | (rw [cnt_s, if_neg (by unfold ofP; rw [c21, ← tl_49 hTL (by omega), decide_eq_false c36, decide_eq_false (by omega)]; decide)]; done))))
            · skip
              refine tj_iconst 40 dX12_of_39 rfl ?_
              refine ev_goto 44 dX12_of_40 (by decide) ?_
              refine tj_iadd 45 dX12_of_44 rfl ?_
              refine ev_ist4 47 dX12_of_45 rfl (by decide) rfl ?_
              refine tj_inc5 50 dX12_of_47 rfl (by decide) rfl ?_
              refine ev_goto 6 dX12_of_50 (by decide) ?_
              exact ev_mono (by omega) (by omega) (ih6 (k + 1) _ _ (by omega) (by first | omega | assumption | omega) (by first | rfl | omega | (first | (rw [cnt_s, if_neg (by unfold ofP; rw [c21, Bool.false_and]; decide)]; done) | (rw [cnt_s, if_pos (by unfold ofP; rw [c21, decide_eq_true (by omega)]; rfl)]; done) | (rw [cnt_s, if_pos (by unfold ofP; rw [c21, ← tl_49 hTL (by omega), decide_eq_true c36, Bool.or_true]; rfl)]; done) | (rw [cnt_s, if_neg (by unfold ofP; rw [c21, ← tl_49 hTL (by omega), decide_eq_false c36, decide_eq_false (by omega)]; decide)]; done))) (by first | rfl | omega | (first | (rw [cnt_s, if_neg (by unfold ofP; rw [c21, Bool.false_and]; decide)]; done) | (rw [cnt_s, if_pos (by unfold ofP; rw [c21, decide_eq_true (by omega)]; rfl)]; done) | (rw [cnt_s, if_pos (by unfold ofP; rw [c21, ← tl_49 hTL (by omega), decide_eq_true c36, Bool.or_true]; rfl)]; done) | (rw [cnt_s, if_neg (by unfold ofP; rw [c21, ← tl_49 hTL (by omega), decide_eq_false c36, decide_eq_false (by omega)]; decide)]; done))))
  exact ev_mono (by omega) (by omega) (lp6 _ (0) _ _ (Nat.lt_succ_self _) (by first | omega | assumption | omega) (by first | rfl | omega | (first | (rw [cnt_s, if_neg (by unfold ofP; rw [c21, Bool.false_and]; decide)]; done) | (rw [cnt_s, if_pos (by unfold ofP; rw [c21, decide_eq_true (by omega)]; rfl)]; done) | (rw [cnt_s, if_pos (by unfold ofP; rw [c21, ← tl_49 hTL (by omega), decide_eq_true c36, Bool.or_true]; rfl)]; done) | (rw [cnt_s, if_neg (by unfold ofP; rw [c21, ← tl_49 hTL (by omega), decide_eq_false c36, decide_eq_false (by omega)]; decide)]; done))) (by first | rfl | omega | (first | (rw [cnt_s, if_neg (by unfold ofP; rw [c21, Bool.false_and]; decide)]; done) | (rw [cnt_s, if_pos (by unfold ofP; rw [c21, decide_eq_true (by omega)]; rfl)]; done) | (rw [cnt_s, if_pos (by unfold ofP; rw [c21, ← tl_49 hTL (by omega), decide_eq_true c36, Bool.or_true]; rfl)]; done) | (rw [cnt_s, if_neg (by unfold ofP; rw [c21, ← tl_49 hTL (by omega), decide_eq_false c36, decide_eq_false (by omega)]; decide)]; done))))
set_option maxRecDepth 100000 in
set_option maxHeartbeats 4000000 in
theorem c_X12_free {g : Gt} {α : AL} {ν : Nat → Nat → Bool} {X : XM} {h : AH} (hT : TR g α ν X h) (hW : WX ν X) (hO : OFF X) (hTL : TLD X) {c : Nat} (hc : c < 5) {m : Int} (hm : 0 ≤ m ∧ m ≤ 3)  : Ct g M_X12_free 30 [.ref (α 40 0), .ref (α 0 0), .int (J (c : Int)), .int (J m)] h 0 0 (PQ (some (.int (J (free X c m)))) h) := by
  refine ct_of_ev rfl rfl (ls := [some (.ref (α 40 0)), some (.ref (α 0 0)), some (.int (J (c : Int))), some (.int (J m)), none, none]) rfl (Nat.le_of_ble_eq_true rfl) ?_
  show Ev g M_X12_free 30 0 [some (.ref (α 40 0)), some (.ref (α 0 0)), some (.int (J (c : Int))), some (.int (J m)), none, none] [] h 0 0 (PQ (some (.int (J (free X c m)))) h)
  obtain ⟨eC, eS, eF⟩ := id hO
  have qs := wo_sea hW.1 c (by omega)
  have qe := enr_0 hW.1 c
  have e47 := tl_47 hTL hc
  have eE := ofP_enr eS c (show (-1 : Int) < 0 by omega)
  have qr := fun k (hk : k < 4) => wo_res hW.1 c k (by omega) hk
  have qM : ∀ k : Nat, 0 ≤ cnt (ofP X c (k : Int)) 5 ∧ cnt (ofP X c (k : Int)) 5 ≤ 5 := fun k => cnt_0 _ 5
  refine ev_ald0 1 dX12_free_0 rfl ?_
  refine ev_getfield 4 14 6 fl_X12_28_14 (tr40 hT) rfl dX12_free_1 rfl ?_
  refine ev_ild2 5 dX12_free_4 rfl ?_
  refine tv_iald 6 (tr47 hT) (c) (by omega) (by omega) (by omega) dX12_free_5 rfl ?_
  refine ev_ald0 7 dX12_free_6 rfl ?_
  refine ev_ald1 8 dX12_free_7 rfl ?_
  refine ev_ild2 9 dX12_free_8 rfl ?_
  refine tj_iconst 10 dX12_free_9 rfl ?_
  refine tp_V (0) (0) 13 14 dX12_free_10 lkv_X12_57 (tr40 hT) rfl (c_X12_of hT hW hO hTL (by omega) (by omega)) (by first | decide | omega) rfl rfl (Nat.le_of_ble_eq_true rfl) rfl (by omega) (by omega) ?_
  refine tj_isub 14 dX12_free_13 rfl ?_
  refine ev_ist4 16 dX12_free_14 rfl (by decide) rfl ?_
  refine tj_iconst 17 dX12_free_16 rfl ?_
  refine ev_ist5 19 dX12_free_17 rfl (by decide) rfl ?_
  have lp19 : ∀ (n19 : Nat) (k : Nat) (z4 : Int) (z5 : Int) , 5 - k < n19 → (k ≤ 4) → (k = 0 ∨ X 0 0 5 < 4) → z4 = X 12 c 2 - enr X c - kept X c m k → z5 = (k : Int) → Ev g M_X12_free 30 19 [some (.ref (α 40 0)), some (.ref (α 0 0)), some (.int (J (c : Int))), some (.int (J m)), some (.int (J z4)), some (.int (J z5))] [] h (0) (0) (PQ (some (.int (J (free X c m)))) h) := by
    intro n19
    induction n19 with
    | zero => intro k z4 z5 hm; exact absurd hm (Nat.not_lt_zero _)
    | succ n19 ih19 =>
      intro k z4 z5 hm19  hk hd e4 e5
      subst e4
      subst e5
      have qk := kept_0 hW.1 (show (c : Int) < nC X by omega) m k hk
      have qMk := qM k
      refine ev_ild5 21 dX12_free_19 rfl ?_
      refine tj_iconst 22 dX12_free_21 rfl ?_
      refine tj_icmp_ge 78 25 dX12_free_22 (by decide) rfl (by first | exact TR.rng hT _ _ _ | exact R31_of _ | exact bi_R _ | assumption | (constructor <;> omega)) (by first | exact TR.rng hT _ _ _ | exact R31_of _ | exact bi_R _ | assumption | (constructor <;> omega)) (fun c22 => ?_) (fun c22 => ?_)
      · skip
        refine tj_iconst 79 dX12_free_78 rfl ?_
        refine ev_ild4 81 dX12_free_79 rfl ?_
        refine tj_mmax 84 dX12_free_81 mmax_X12_64 (by decide) (Nat.le_of_ble_eq_true rfl) rfl (by first | exact TR.rng hT _ _ _ | exact R31_of _ | exact bi_R _ | assumption | (constructor <;> omega)) (by first | exact TR.rng hT _ _ _ | exact R31_of _ | exact bi_R _ | assumption | (constructor <;> omega)) ?_
        exact ev_ireturn (pq_i (by first | rfl | omega | exact bi_dt (by omega) | exact bi_df (by omega) | (unfold free free0; (first | (rw [if_pos (show X 0 0 5 ≤ 3 by omega), show k = 4 by omega]; exact mx0 _) | (rw [if_neg (show ¬ X 0 0 5 ≤ 3 by omega), show k = 0 by omega]; exact mx0 (X 12 c 2 - enr X c - 0)))))) rfl dX12_free_84
      · skip
        refine ev_ald1 26 dX12_free_25 rfl ?_
        refine tc_V0 29 13 dX12_free_26 lkv_X12_60 (tr0 hT) rfl rfl (by first | decide | omega) (Nat.le_of_ble_eq_true rfl) (c_X11_day_ok hT hW) ?_
        refine tj_iconst 30 dX12_free_29 rfl ?_
        refine tj_icmp_ge 78 33 dX12_free_30 (by decide) rfl (by first | exact TR.rng hT _ _ _ | exact R31_of _ | exact bi_R _ | assumption | (constructor <;> omega)) (by first | exact TR.rng hT _ _ _ | exact R31_of _ | exact bi_R _ | assumption | (constructor <;> omega)) (fun c30 => ?_) (fun c30 => ?_)
        · skip
          refine tj_iconst 79 dX12_free_78 rfl ?_
          refine ev_ild4 81 dX12_free_79 rfl ?_
          refine tj_mmax 84 dX12_free_81 mmax_X12_64 (by decide) (Nat.le_of_ble_eq_true rfl) rfl (by first | exact TR.rng hT _ _ _ | exact R31_of _ | exact bi_R _ | assumption | (constructor <;> omega)) (by first | exact TR.rng hT _ _ _ | exact R31_of _ | exact bi_R _ | assumption | (constructor <;> omega)) ?_
          exact ev_ireturn (pq_i (by first | rfl | omega | exact bi_dt (by omega) | exact bi_df (by omega) | (unfold free free0; (first | (rw [if_pos (show X 0 0 5 ≤ 3 by omega), show k = 4 by omega]; exact mx0 _) | (rw [if_neg (show ¬ X 0 0 5 ≤ 3 by omega), show k = 0 by omega]; exact mx0 (X 12 c 2 - enr X c - 0)))))) rfl dX12_free_84
        · skip
          refine ev_ild4 35 dX12_free_33 rfl ?_
          refine ev_ild5 37 dX12_free_35 rfl ?_
          refine ev_ild3 38 dX12_free_37 rfl ?_
          refine tj_icmp_ne 45 41 dX12_free_38 (by decide) rfl (by first | exact TR.rng hT _ _ _ | exact R31_of _ | exact bi_R _ | assumption | (constructor <;> omega)) (by first | exact TR.rng hT _ _ _ | exact R31_of _ | exact bi_R _ | assumption | (constructor <;> omega)) (fun c38 => ?_) (fun c38 => ?_)
          · skip
            have qmk := qr k (by omega)
            have e48 := tl_48 hTL hc (show k < 4 by omega)
            refine tj_iconst 46 dX12_free_45 rfl ?_
            refine ev_ald0 47 dX12_free_46 rfl ?_
            refine ev_getfield 50 14 7 fl_X12_31_14 (tr40 hT) rfl dX12_free_47 rfl ?_
            refine tj_iconst 51 dX12_free_50 rfl ?_
            refine ev_ild2 52 dX12_free_51 rfl ?_
            refine tj_imul 53 dX12_free_52 rfl ?_
            refine ev_ild5 55 dX12_free_53 rfl ?_
            refine tj_iadd 56 dX12_free_55 rfl ?_
            refine tv_iald 57 (tr48 hT) (((4 * c) + k)) (by omega) (by omega) (by omega) dX12_free_56 rfl ?_
            refine ev_ald0 58 dX12_free_57 rfl ?_
            refine ev_ald1 59 dX12_free_58 rfl ?_
            refine ev_ild2 60 dX12_free_59 rfl ?_
            refine ev_ild5 62 dX12_free_60 rfl ?_
            refine tp_V (0) (0) 65 14 dX12_free_62 lkv_X12_57 (tr40 hT) rfl (c_X12_of hT hW hO hTL (by omega) (by omega)) (by first | decide | omega) rfl rfl (Nat.le_of_ble_eq_true rfl) rfl (by omega) (by omega) ?_
            refine tj_isub 66 dX12_free_65 rfl ?_
            refine tj_mmax 69 dX12_free_66 mmax_X12_64 (by decide) (Nat.le_of_ble_eq_true rfl) rfl (by first | exact TR.rng hT _ _ _ | exact R31_of _ | exact bi_R _ | assumption | (constructor <;> omega)) (by first | exact TR.rng hT _ _ _ | exact R31_of _ | exact bi_R _ | assumption | (constructor <;> omega)) ?_
            refine tj_isub 70 dX12_free_69 rfl ?_
            refine ev_ist4 72 dX12_free_70 rfl (by decide) rfl ?_
            refine tj_inc5 75 dX12_free_72 rfl (by decide) rfl ?_
            refine ev_goto 19 dX12_free_75 (by decide) ?_
            exact ev_mono (by omega) (by omega) (ih19 (k + 1) _ _ (by omega) (by first | omega | assumption | omega) (by first | omega | assumption | omega) (by first | rfl | omega | (first | (rw [e47, eE]; simp [kept]; done) | (rw [kept_s]; (first | (rw [if_neg (fun z => z.1 (by omega))]; done) | (rw [if_neg (fun z => z.1 (by omega))]; omega) | (rw [← tl_48 hTL (by omega) (by omega), ← ofP_maj eS c (by omega)]; split <;> split <;> omega) | (rw [← tl_48 hTL (by omega) (by omega), ← ofP_maj eS c (by omega)]; split <;> omega))))) (by first | rfl | omega | (first | (rw [e47, eE]; simp [kept]; done) | (rw [kept_s]; (first | (rw [if_neg (fun z => z.1 (by omega))]; done) | (rw [if_neg (fun z => z.1 (by omega))]; omega) | (rw [← tl_48 hTL (by omega) (by omega), ← ofP_maj eS c (by omega)]; split <;> split <;> omega) | (rw [← tl_48 hTL (by omega) (by omega), ← ofP_maj eS c (by omega)]; split <;> omega))))))
          · skip
            have qmk := qr k (by omega)
            refine tj_iconst 42 dX12_free_41 rfl ?_
            refine ev_goto 69 dX12_free_42 (by decide) ?_
            refine tj_isub 70 dX12_free_69 rfl ?_
            refine ev_ist4 72 dX12_free_70 rfl (by decide) rfl ?_
            refine tj_inc5 75 dX12_free_72 rfl (by decide) rfl ?_
            refine ev_goto 19 dX12_free_75 (by decide) ?_
            exact ev_mono (by omega) (by omega) (ih19 (k + 1) _ _ (by omega) (by first | omega | assumption | omega) (by first | omega | assumption | omega) (by first | rfl | omega | (first | (rw [e47, eE]; simp [kept]; done) | (rw [kept_s]; (first | (rw [if_neg (fun z => z.1 (by omega))]; done) | (rw [if_neg (fun z => z.1 (by omega))]; omega) | (rw [← tl_48 hTL (by omega) (by omega), ← ofP_maj eS c (by omega)]; split <;> split <;> omega) | (rw [← tl_48 hTL (by omega) (by omega), ← ofP_maj eS c (by omega)]; split <;> omega))))) (by first | rfl | omega | (first | (rw [e47, eE]; simp [kept]; done) | (rw [kept_s]; (first | (rw [if_neg (fun z => z.1 (by omega))]; done) | (rw [if_neg (fun z => z.1 (by omega))]; omega) | (rw [← tl_48 hTL (by omega) (by omega), ← ofP_maj eS c (by omega)]; split <;> split <;> omega) | (rw [← tl_48 hTL (by omega) (by omega), ← ofP_maj eS c (by omega)]; split <;> omega))))))
  exact ev_mono (by omega) (by omega) (lp19 _ (0) _ _ (Nat.lt_succ_self _) (by first | omega | assumption | omega) (by first | omega | assumption | omega) (by first | rfl | omega | (first | (rw [e47, eE]; simp [kept]; done) | (rw [kept_s]; (first | (rw [if_neg (fun z => z.1 (by omega))]; done) | (rw [if_neg (fun z => z.1 (by omega))]; omega) | (rw [← tl_48 hTL (by omega) (by omega), ← ofP_maj eS c (by omega)]; split <;> split <;> omega) | (rw [← tl_48 hTL (by omega) (by omega), ← ofP_maj eS c (by omega)]; split <;> omega))))) (by first | rfl | omega | (first | (rw [e47, eE]; simp [kept]; done) | (rw [kept_s]; (first | (rw [if_neg (fun z => z.1 (by omega))]; done) | (rw [if_neg (fun z => z.1 (by omega))]; omega) | (rw [← tl_48 hTL (by omega) (by omega), ← ofP_maj eS c (by omega)]; split <;> split <;> omega) | (rw [← tl_48 hTL (by omega) (by omega), ← ofP_maj eS c (by omega)]; split <;> omega))))))
