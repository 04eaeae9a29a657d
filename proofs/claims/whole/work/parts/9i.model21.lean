/-! THE REFERENCE ENROLLS -/
/-- the exception that a letter says -/
def cod (l : Int) : Int := if l = 100 then 2 else if l = 105 then 3 else if l = 114 ∨ l = 97 then 4 else if l = 99 then 5 else if l = 102 then 6 else 0
theorem cod_ltr {O : XM} (hO : WO O) {s c : Nat} (hc : (c : Int) < nC O) : cod (ltr O s c) = if 5 < O 0 0 5 then 2 else if (tak O s c || decide (place O c s ≠ -1)) = true then 3 else if mayT O s c = false then 4 else if decide (3 ≤ O 9 s c) = true then 4 else if fitsL O s c = false then 5 else if decide (free O c (O 4 s 0) = 0 ∧ O 1 (4 + c) 2 = 6) = true then 6 else 0 := by
  have h1 := free_0 hO hc (O 4 s 0)
  have h2 := wo_wN hO c hc
  unfold ltr
  by_cases c1 : 5 < O 0 0 5
  · rw [if_pos c1, if_pos c1]; rfl
  · rw [if_neg c1, if_neg c1]
    by_cases c2 : tak O s c = true ∨ place O c s ≠ -1
    · rw [if_pos c2, if_pos (by rcases c2 with z | z <;> simp [z])]; rfl
    · have c2b : ¬ (tak O s c || decide (place O c s ≠ -1)) = true := by simpa using c2
      rw [if_neg c2, if_neg c2b]
      by_cases c3 : mayT O s c = false
      · rw [if_pos c3, if_pos c3]; rfl
      · rw [if_neg c3, if_neg c3]
        by_cases c4 : 3 ≤ O 9 s c
        · rw [if_pos c4, if_pos (decide_eq_true c4)]; rfl
        · rw [if_neg c4, if_neg (show ¬ decide (3 ≤ O 9 s c) = true by rw [decide_eq_true_eq]; exact c4)]
          by_cases c5 : fitsL O s c = false
          · rw [if_pos c5, if_pos c5]; rfl
          · rw [if_neg c5, if_neg c5]
            by_cases c6 : 0 < free O c (O 4 s 0)
            · rw [if_pos c6, if_neg (show ¬ decide (free O c (O 4 s 0) = 0 ∧ O 1 (4 + c) 2 = 6) = true by rw [decide_eq_true_eq]; omega)]; rfl
            · rw [if_neg c6]
              by_cases c7 : 6 ≤ O 1 (4 + c) 2
              · rw [if_pos c7, if_pos (decide_eq_true ⟨by omega, by omega⟩)]; rfl
              · rw [if_neg c7, if_neg (show ¬ decide (free O c (O 4 s 0) = 0 ∧ O 1 (4 + c) 2 = 6) = true by rw [decide_eq_true_eq]; omega)]; rfl
set_option maxRecDepth 100000 in
set_option maxHeartbeats 4000000 in
theorem c_X12_enrollFault_b1 {g : Gt} {α : AL} {ν : Nat → Nat → Bool} {X : XM} {h : AH} (hT : TR g α ν X h) {O : XM} (hO : WO O) (hM : RM O X) {b : Int} (hb : R31 b) (hn : ¬ (0 ≤ b ∧ b < nS O)) {a : Int} (ha : R31 a) : Pr g M_X12_enrollFault 16 [.ref (α 40 0), .int (J b), .int (J a)] h (some (.int (J 1))) := by
  refine pr_of rfl rfl (ls := [some (.ref (α 40 0)), some (.int (J b)), some (.int (J a))]) rfl (Nat.le_of_ble_eq_true rfl) ?_
  show Ev g M_X12_enrollFault 16 0 [some (.ref (α 40 0)), some (.int (J b)), some (.int (J a))] [] h 0 0 (PQ (some (.int (J 1))) h)
  have q0 := rm_nC hM
  have q1 := wo_nC hO
  have q2 := rm_nS hM
  have q3 := wo_nS hO
  refine ev_ald0 1 dX12_enrollFault_0 rfl ?_
  refine ev_ild1 2 dX12_enrollFault_1 rfl ?_
  refine tc_V1 5 14 dX12_enrollFault_2 lkv_X12_158 (tr40 hT) rfl rfl (by first | decide | omega) (Nat.le_of_ble_eq_true rfl) (isStudent_no hT hO hM hb hn) ?_
  refine tj_if_eq 16 8 dX12_enrollFault_5 (by decide) rfl (by first | exact TR.rng hT _ _ _ | exact R31_of _ | exact bi_R _ | (constructor <;> omega)) (fun c5 => ?_) (fun c5 => ?_)
  · skip
    refine tj_iconst 17 dX12_enrollFault_16 rfl ?_
    exact ev_ireturn (pq_i (by first | rfl | omega | exact bi_dt (by omega) | exact bi_df (by omega) | (skip))) rfl dX12_enrollFault_17
  · exact False.elim (by omega)
set_option maxRecDepth 100000 in
set_option maxHeartbeats 4000000 in
theorem c_X12_enrollFault_b2 {g : Gt} {α : AL} {ν : Nat → Nat → Bool} {X : XM} {h : AH} (hT : TR g α ν X h) {O : XM} (hO : WO O) (hM : RM O X) {s : Nat} (hs : (s : Int) < nS O) {b : Int} (hb : R31 b) (hn : ¬ (0 ≤ b ∧ b < nC O)) : Pr g M_X12_enrollFault 16 [.ref (α 40 0), .int (J (s : Int)), .int (J b)] h (some (.int (J 1))) := by
  refine pr_of rfl rfl (ls := [some (.ref (α 40 0)), some (.int (J (s : Int))), some (.int (J b))]) rfl (Nat.le_of_ble_eq_true rfl) ?_
  show Ev g M_X12_enrollFault 16 0 [some (.ref (α 40 0)), some (.int (J (s : Int))), some (.int (J b))] [] h 0 0 (PQ (some (.int (J 1))) h)
  have q0 := rm_nC hM
  have q1 := wo_nC hO
  have q2 := rm_nS hM
  have q3 := wo_nS hO
  refine ev_ald0 1 dX12_enrollFault_0 rfl ?_
  refine ev_ild1 2 dX12_enrollFault_1 rfl ?_
  refine tc_V1 5 14 dX12_enrollFault_2 lkv_X12_158 (tr40 hT) rfl rfl (by first | decide | omega) (Nat.le_of_ble_eq_true rfl) (isStudent_ok hT hO hM (by omega)) ?_
  refine tj_if_eq 16 8 dX12_enrollFault_5 (by decide) rfl (by first | exact TR.rng hT _ _ _ | exact R31_of _ | exact bi_R _ | (constructor <;> omega)) (fun c5 => ?_) (fun c5 => ?_)
  · exact False.elim (by omega)
  · skip
    refine ev_ald0 9 dX12_enrollFault_8 rfl ?_
    refine ev_ild2 10 dX12_enrollFault_9 rfl ?_
    refine tc_V1 13 14 dX12_enrollFault_10 lkv_X12_151 (tr40 hT) rfl rfl (by first | decide | omega) (Nat.le_of_ble_eq_true rfl) (isCourse_no hT hO hM hb hn) ?_
    refine tj_if_ne 18 16 dX12_enrollFault_13 (by decide) rfl (by first | exact TR.rng hT _ _ _ | exact R31_of _ | exact bi_R _ | (constructor <;> omega)) (fun c13 => ?_) (fun c13 => ?_)
    · exact False.elim (by omega)
    · skip
      refine tj_iconst 17 dX12_enrollFault_16 rfl ?_
      exact ev_ireturn (pq_i (by first | rfl | omega | exact bi_dt (by omega) | exact bi_df (by omega) | (skip))) rfl dX12_enrollFault_17
set_option maxRecDepth 100000 in
set_option maxHeartbeats 4000000 in
theorem c_X12_enrollFault_ok {g : Gt} {α : AL} {ν : Nat → Nat → Bool} {X : XM} {h : AH} (hT : TR g α ν X h) {O : XM} (hO : WO O) (hM : RM O X) {s : Nat} (hs : (s : Int) < nS O) {c : Nat} (hc : (c : Int) < nC O) : Pr g M_X12_enrollFault 16 [.ref (α 40 0), .int (J (s : Int)), .int (J (c : Int))] h (some (.int (J (cod (ltr O s c))))) := by
  refine pr_of rfl rfl (ls := [some (.ref (α 40 0)), some (.int (J (s : Int))), some (.int (J (c : Int)))]) rfl (Nat.le_of_ble_eq_true rfl) ?_
  show Ev g M_X12_enrollFault 16 0 [some (.ref (α 40 0)), some (.int (J (s : Int))), some (.int (J (c : Int)))] [] h 0 0 (PQ (some (.int (J (cod (ltr O s c))))) h)
  have q0 := rm_nC hM
  have q1 := wo_nC hO
  have q2 := rm_nS hM
  have q3 := wo_nS hO
  have qd := rm_day hM
  have qd2 := wo_day hO
  refine ev_ald0 1 dX12_enrollFault_0 rfl ?_
  refine ev_ild1 2 dX12_enrollFault_1 rfl ?_
  refine tc_V1 5 14 dX12_enrollFault_2 lkv_X12_158 (tr40 hT) rfl rfl (by first | decide | omega) (Nat.le_of_ble_eq_true rfl) (isStudent_ok hT hO hM (by omega)) ?_
  refine tj_if_eq 16 8 dX12_enrollFault_5 (by decide) rfl (by first | exact TR.rng hT _ _ _ | exact R31_of _ | exact bi_R _ | (constructor <;> omega)) (fun c5 => ?_) (fun c5 => ?_)
  · exact False.elim (by omega)
  · skip
    refine ev_ald0 9 dX12_enrollFault_8 rfl ?_
    refine ev_ild2 10 dX12_enrollFault_9 rfl ?_
    refine tc_V1 13 14 dX12_enrollFault_10 lkv_X12_151 (tr40 hT) rfl rfl (by first | decide | omega) (Nat.le_of_ble_eq_true rfl) (isCourse_ok hT hO hM (by omega)) ?_
    refine tj_if_ne 18 16 dX12_enrollFault_13 (by decide) rfl (by first | exact TR.rng hT _ _ _ | exact R31_of _ | exact bi_R _ | (constructor <;> omega)) (fun c13 => ?_) (fun c13 => ?_)
    · skip
      refine ev_ald0 19 dX12_enrollFault_18 rfl ?_
      refine ev_getfield 22 14 1 fl_X12_164_14 (tr40 hT) rfl dX12_enrollFault_19 rfl ?_
      refine tj_iconst 23 dX12_enrollFault_22 rfl ?_
      refine tj_icmp_le 30 26 dX12_enrollFault_23 (by decide) rfl (by first | exact TR.rng hT _ _ _ | exact R31_of _ | exact bi_R _ | (constructor <;> omega)) (by first | exact TR.rng hT _ _ _ | exact R31_of _ | exact bi_R _ | (constructor <;> omega)) (fun c23 => ?_) (fun c23 => ?_)
      · skip
        refine ev_ald0 31 dX12_enrollFault_30 rfl ?_
        refine ev_ild1 32 dX12_enrollFault_31 rfl ?_
        refine ev_ild2 33 dX12_enrollFault_32 rfl ?_
        refine tc_V2 36 14 dX12_enrollFault_33 lkv_X12_205 (tr40 hT) rfl rfl (by first | decide | omega) (Nat.le_of_ble_eq_true rfl) (c_X12_isInOrWaits hT hO hM (by omega) (by omega)) ?_
        refine tb_if_eq 43 39 dX12_enrollFault_36 (by decide) rfl (fun c36 => ?_) (fun c36 => ?_)
        · skip
          refine ev_ald0 44 dX12_enrollFault_43 rfl ?_
          refine ev_ild1 45 dX12_enrollFault_44 rfl ?_
          refine ev_ild2 46 dX12_enrollFault_45 rfl ?_
          refine tc_V2 49 14 dX12_enrollFault_46 lkv_X12_176 (tr40 hT) rfl rfl (by first | decide | omega) (Nat.le_of_ble_eq_true rfl) (c_X12_mayTake hT hO hM (by omega) (by omega)) ?_
          refine tb_if_eq 61 52 dX12_enrollFault_49 (by decide) rfl (fun c49 => ?_) (fun c49 => ?_)
          · skip
            refine tj_iconst 62 dX12_enrollFault_61 rfl ?_
            refine ev_goto 93 dX12_enrollFault_62 (by decide) ?_
            exact ev_ireturn (pq_i (by first | rfl | omega | exact bi_dt (by omega) | exact bi_df (by omega) | (rw [cod_ltr hO hc]; first | (rw [if_pos (by omega)]; done) | (rw [if_neg (by omega)]; rw [if_pos c36]; done) | (rw [if_neg (by omega)]; rw [if_neg (by rw [c36]; decide)]; rw [if_pos c49]; done) | (rw [if_neg (by omega)]; rw [if_neg (by rw [c36]; decide)]; rw [if_neg (by rw [c49]; decide)]; rw [if_pos c58]; done) | (rw [if_neg (by omega)]; rw [if_neg (by rw [c36]; decide)]; rw [if_neg (by rw [c49]; decide)]; rw [if_neg (by rw [c58]; decide)]; rw [if_pos c71]; done) | (rw [if_neg (by omega)]; rw [if_neg (by rw [c36]; decide)]; rw [if_neg (by rw [c49]; decide)]; rw [if_neg (by rw [c58]; decide)]; rw [if_neg (by rw [c71]; decide)]; rw [if_pos c84]; done) | (rw [if_neg (by omega)]; rw [if_neg (by rw [c36]; decide)]; rw [if_neg (by rw [c49]; decide)]; rw [if_neg (by rw [c58]; decide)]; rw [if_neg (by rw [c71]; decide)]; rw [if_neg (by rw [c84]; decide)]; done)))) rfl dX12_enrollFault_93
          · skip
            refine ev_ald0 53 dX12_enrollFault_52 rfl ?_
            refine ev_ild1 54 dX12_enrollFault_53 rfl ?_
            refine ev_ild2 55 dX12_enrollFault_54 rfl ?_
            refine tc_V2 58 14 dX12_enrollFault_55 lkv_X12_208 (tr40 hT) rfl rfl (by first | decide | omega) (Nat.le_of_ble_eq_true rfl) (c_X12_isTired hT hO hM (by omega) (by omega)) ?_
            refine tb_if_eq 65 61 dX12_enrollFault_58 (by decide) rfl (fun c58 => ?_) (fun c58 => ?_)
            · skip
              refine ev_ald0 66 dX12_enrollFault_65 rfl ?_
              refine ev_ild1 67 dX12_enrollFault_66 rfl ?_
              refine ev_ild2 68 dX12_enrollFault_67 rfl ?_
              refine tc_V2 71 14 dX12_enrollFault_68 lkv_X12_173 (tr40 hT) rfl rfl (by first | decide | omega) (Nat.le_of_ble_eq_true rfl) (c_X12_fits hT hO hM (by omega) (by omega)) ?_
              refine tb_if_ne 78 74 dX12_enrollFault_71 (by decide) rfl (fun c71 => ?_) (fun c71 => ?_)
              · skip
                refine ev_ald0 79 dX12_enrollFault_78 rfl ?_
                refine ev_ild1 80 dX12_enrollFault_79 rfl ?_
                refine ev_ild2 81 dX12_enrollFault_80 rfl ?_
                refine tc_V2 84 14 dX12_enrollFault_81 lkv_X12_211 (tr40 hT) rfl rfl (by first | decide | omega) (Nat.le_of_ble_eq_true rfl) (c_X12_isClosed hT hO hM (by omega) (by omega)) ?_
                refine tb_if_eq 92 87 dX12_enrollFault_84 (by decide) rfl (fun c84 => ?_) (fun c84 => ?_)
                · skip
                  refine tj_iconst 93 dX12_enrollFault_92 rfl ?_
                  exact ev_ireturn (pq_i (by first | rfl | omega | exact bi_dt (by omega) | exact bi_df (by omega) | (rw [cod_ltr hO hc]; first | (rw [if_pos (by omega)]; done) | (rw [if_neg (by omega)]; rw [if_pos c36]; done) | (rw [if_neg (by omega)]; rw [if_neg (by rw [c36]; decide)]; rw [if_pos c49]; done) | (rw [if_neg (by omega)]; rw [if_neg (by rw [c36]; decide)]; rw [if_neg (by rw [c49]; decide)]; rw [if_pos c58]; done) | (rw [if_neg (by omega)]; rw [if_neg (by rw [c36]; decide)]; rw [if_neg (by rw [c49]; decide)]; rw [if_neg (by rw [c58]; decide)]; rw [if_pos c71]; done) | (rw [if_neg (by omega)]; rw [if_neg (by rw [c36]; decide)]; rw [if_neg (by rw [c49]; decide)]; rw [if_neg (by rw [c58]; decide)]; rw [if_neg (by rw [c71]; decide)]; rw [if_pos c84]; done) | (rw [if_neg (by omega)]; rw [if_neg (by rw [c36]; decide)]; rw [if_neg (by rw [c49]; decide)]; rw [if_neg (by rw [c58]; decide)]; rw [if_neg (by rw [c71]; decide)]; rw [if_neg (by rw [c84]; decide)]; done)))) rfl dX12_enrollFault_93
                · skip
                  refine tj_bipush 89 dX12_enrollFault_87 (by decide) rfl ?_
                  refine ev_goto 93 dX12_enrollFault_89 (by decide) ?_
                  exact ev_ireturn (pq_i (by first | rfl | omega | exact bi_dt (by omega) | exact bi_df (by omega) | (rw [cod_ltr hO hc]; first | (rw [if_pos (by omega)]; done) | (rw [if_neg (by omega)]; rw [if_pos c36]; done) | (rw [if_neg (by omega)]; rw [if_neg (by rw [c36]; decide)]; rw [if_pos c49]; done) | (rw [if_neg (by omega)]; rw [if_neg (by rw [c36]; decide)]; rw [if_neg (by rw [c49]; decide)]; rw [if_pos c58]; done) | (rw [if_neg (by omega)]; rw [if_neg (by rw [c36]; decide)]; rw [if_neg (by rw [c49]; decide)]; rw [if_neg (by rw [c58]; decide)]; rw [if_pos c71]; done) | (rw [if_neg (by omega)]; rw [if_neg (by rw [c36]; decide)]; rw [if_neg (by rw [c49]; decide)]; rw [if_neg (by rw [c58]; decide)]; rw [if_neg (by rw [c71]; decide)]; rw [if_pos c84]; done) | (rw [if_neg (by omega)]; rw [if_neg (by rw [c36]; decide)]; rw [if_neg (by rw [c49]; decide)]; rw [if_neg (by rw [c58]; decide)]; rw [if_neg (by rw [c71]; decide)]; rw [if_neg (by rw [c84]; decide)]; done)))) rfl dX12_enrollFault_93
              · skip
                refine tj_iconst 75 dX12_enrollFault_74 rfl ?_
                refine ev_goto 93 dX12_enrollFault_75 (by decide) ?_
                exact ev_ireturn (pq_i (by first | rfl | omega | exact bi_dt (by omega) | exact bi_df (by omega) | (rw [cod_ltr hO hc]; first | (rw [if_pos (by omega)]; done) | (rw [if_neg (by omega)]; rw [if_pos c36]; done) | (rw [if_neg (by omega)]; rw [if_neg (by rw [c36]; decide)]; rw [if_pos c49]; done) | (rw [if_neg (by omega)]; rw [if_neg (by rw [c36]; decide)]; rw [if_neg (by rw [c49]; decide)]; rw [if_pos c58]; done) | (rw [if_neg (by omega)]; rw [if_neg (by rw [c36]; decide)]; rw [if_neg (by rw [c49]; decide)]; rw [if_neg (by rw [c58]; decide)]; rw [if_pos c71]; done) | (rw [if_neg (by omega)]; rw [if_neg (by rw [c36]; decide)]; rw [if_neg (by rw [c49]; decide)]; rw [if_neg (by rw [c58]; decide)]; rw [if_neg (by rw [c71]; decide)]; rw [if_pos c84]; done) | (rw [if_neg (by omega)]; rw [if_neg (by rw [c36]; decide)]; rw [if_neg (by rw [c49]; decide)]; rw [if_neg (by rw [c58]; decide)]; rw [if_neg (by rw [c71]; decide)]; rw [if_neg (by rw [c84]; decide)]; done)))) rfl dX12_enrollFault_93
            · skip
              refine tj_iconst 62 dX12_enrollFault_61 rfl ?_
              refine ev_goto 93 dX12_enrollFault_62 (by decide) ?_
              exact ev_ireturn (pq_i (by first | rfl | omega | exact bi_dt (by omega) | exact bi_df (by omega) | (rw [cod_ltr hO hc]; first | (rw [if_pos (by omega)]; done) | (rw [if_neg (by omega)]; rw [if_pos c36]; done) | (rw [if_neg (by omega)]; rw [if_neg (by rw [c36]; decide)]; rw [if_pos c49]; done) | (rw [if_neg (by omega)]; rw [if_neg (by rw [c36]; decide)]; rw [if_neg (by rw [c49]; decide)]; rw [if_pos c58]; done) | (rw [if_neg (by omega)]; rw [if_neg (by rw [c36]; decide)]; rw [if_neg (by rw [c49]; decide)]; rw [if_neg (by rw [c58]; decide)]; rw [if_pos c71]; done) | (rw [if_neg (by omega)]; rw [if_neg (by rw [c36]; decide)]; rw [if_neg (by rw [c49]; decide)]; rw [if_neg (by rw [c58]; decide)]; rw [if_neg (by rw [c71]; decide)]; rw [if_pos c84]; done) | (rw [if_neg (by omega)]; rw [if_neg (by rw [c36]; decide)]; rw [if_neg (by rw [c49]; decide)]; rw [if_neg (by rw [c58]; decide)]; rw [if_neg (by rw [c71]; decide)]; rw [if_neg (by rw [c84]; decide)]; done)))) rfl dX12_enrollFault_93
        · skip
          refine tj_iconst 40 dX12_enrollFault_39 rfl ?_
          refine ev_goto 93 dX12_enrollFault_40 (by decide) ?_
          exact ev_ireturn (pq_i (by first | rfl | omega | exact bi_dt (by omega) | exact bi_df (by omega) | (rw [cod_ltr hO hc]; first | (rw [if_pos (by omega)]; done) | (rw [if_neg (by omega)]; rw [if_pos c36]; done) | (rw [if_neg (by omega)]; rw [if_neg (by rw [c36]; decide)]; rw [if_pos c49]; done) | (rw [if_neg (by omega)]; rw [if_neg (by rw [c36]; decide)]; rw [if_neg (by rw [c49]; decide)]; rw [if_pos c58]; done) | (rw [if_neg (by omega)]; rw [if_neg (by rw [c36]; decide)]; rw [if_neg (by rw [c49]; decide)]; rw [if_neg (by rw [c58]; decide)]; rw [if_pos c71]; done) | (rw [if_neg (by omega)]; rw [if_neg (by rw [c36]; decide)]; rw [if_neg (by rw [c49]; decide)]; rw [if_neg (by rw [c58]; decide)]; rw [if_neg (by rw [c71]; decide)]; rw [if_pos c84]; done) | (rw [if_neg (by omega)]; rw [if_neg (by rw [c36]; decide)]; rw [if_neg (by rw [c49]; decide)]; rw [if_neg (by rw [c58]; decide)]; rw [if_neg (by rw [c71]; decide)]; rw [if_neg (by rw [c84]; decide)]; done)))) rfl dX12_enrollFault_93
      · skip
        refine tj_iconst 27 dX12_enrollFault_26 rfl ?_
        refine ev_goto 93 dX12_enrollFault_27 (by decide) ?_
        exact ev_ireturn (pq_i (by first | rfl | omega | exact bi_dt (by omega) | exact bi_df (by omega) | (rw [cod_ltr hO hc]; first | (rw [if_pos (by omega)]; done) | (rw [if_neg (by omega)]; rw [if_pos c36]; done) | (rw [if_neg (by omega)]; rw [if_neg (by rw [c36]; decide)]; rw [if_pos c49]; done) | (rw [if_neg (by omega)]; rw [if_neg (by rw [c36]; decide)]; rw [if_neg (by rw [c49]; decide)]; rw [if_pos c58]; done) | (rw [if_neg (by omega)]; rw [if_neg (by rw [c36]; decide)]; rw [if_neg (by rw [c49]; decide)]; rw [if_neg (by rw [c58]; decide)]; rw [if_pos c71]; done) | (rw [if_neg (by omega)]; rw [if_neg (by rw [c36]; decide)]; rw [if_neg (by rw [c49]; decide)]; rw [if_neg (by rw [c58]; decide)]; rw [if_neg (by rw [c71]; decide)]; rw [if_pos c84]; done) | (rw [if_neg (by omega)]; rw [if_neg (by rw [c36]; decide)]; rw [if_neg (by rw [c49]; decide)]; rw [if_neg (by rw [c58]; decide)]; rw [if_neg (by rw [c71]; decide)]; rw [if_neg (by rw [c84]; decide)]; done)))) rfl dX12_enrollFault_93
    · exact False.elim (by omega)
set_option maxRecDepth 100000 in
set_option maxHeartbeats 4000000 in
theorem c_X12_enroll_b1 {g : Gt} {α : AL} {ν : Nat → Nat → Bool} {X : XM} {h : AH} (hT : TR g α ν X h) {O : XM} (hO : WO O) (hM : RM O X) {b : Int} (hb : R31 b) (hn : ¬ (0 ≤ b ∧ b < nS O)) {a1 : Int} (ha1 : R31 a1) : Mu g α ν M_X12_enroll 27 [.ref (α 40 0), .int (J b), .int (J a1)] h (some (.int (J (0)))) (fun X' => X' = xs X 40 0 0 1) := by
  refine mu_of rfl rfl (ls := [some (.ref (α 40 0)), some (.int (J b)), some (.int (J a1)), none]) rfl (Nat.le_of_ble_eq_true rfl) ?_
  show Ev g M_X12_enroll 27 0 [some (.ref (α 40 0)), some (.int (J b)), some (.int (J a1)), none] [] h 0 0 (UQ g α ν (some (.int (J (0)))) (fun X' => X' = xs X 40 0 0 1))
  have q0 := rm_nC hM
  have q1 := wo_nC hO
  have q2 := rm_nS hM
  have q3 := wo_nS hO
  refine ev_ald0 1 dX12_enroll_0 rfl ?_
  refine ev_ald0 2 dX12_enroll_1 rfl ?_
  refine ev_ild1 3 dX12_enroll_2 rfl ?_
  refine ev_ild2 4 dX12_enroll_3 rfl ?_
  refine tc_V2 7 14 dX12_enroll_4 lkv_X12_214 (tr40 hT) rfl rfl (by first | decide | omega) (Nat.le_of_ble_eq_true rfl) (c_X12_enrollFault_b1 hT hO hM hb hn ha1) ?_
  refine tm_V1 10 14 dX12_enroll_7 lkv_X12_144 (tr40 hT) rfl rfl (by first | decide | omega) (Nat.le_of_ble_eq_true rfl) (goes_n hT (by omega)) (fun h X1 hT hP7 => ?_)
  have hM1 := hM
  have hM : RM O X1 := by rw [hP7]; exact rm_th hM1 _
  have q0 := rm_nC hM
  have q2 := rm_nS hM
  refine tj_if_ne 15 13 dX12_enroll_10 (by decide) rfl (by first | exact TR.rng hT _ _ _ | exact R31_of _ | exact bi_R _ | (constructor <;> omega)) (fun c10 => ?_) (fun c10 => ?_)
  · exact False.elim (by omega)
  · skip
    refine tj_iconst 14 dX12_enroll_13 rfl ?_
    exact tz_retcU (by first | rfl | omega | exact bi_dt (by omega) | exact bi_df (by omega) | (skip)) (by first | decide | omega) hT (by assumption) rfl dX12_enroll_14
set_option maxRecDepth 100000 in
set_option maxHeartbeats 4000000 in
theorem c_X12_enroll_b2 {g : Gt} {α : AL} {ν : Nat → Nat → Bool} {X : XM} {h : AH} (hT : TR g α ν X h) {O : XM} (hO : WO O) (hM : RM O X) {s : Nat} (hs : (s : Int) < nS O) {b : Int} (hb : R31 b) (hn : ¬ (0 ≤ b ∧ b < nC O)) : Mu g α ν M_X12_enroll 27 [.ref (α 40 0), .int (J (s : Int)), .int (J b)] h (some (.int (J (0)))) (fun X' => X' = xs X 40 0 0 1) := by
  refine mu_of rfl rfl (ls := [some (.ref (α 40 0)), some (.int (J (s : Int))), some (.int (J b)), none]) rfl (Nat.le_of_ble_eq_true rfl) ?_
  show Ev g M_X12_enroll 27 0 [some (.ref (α 40 0)), some (.int (J (s : Int))), some (.int (J b)), none] [] h 0 0 (UQ g α ν (some (.int (J (0)))) (fun X' => X' = xs X 40 0 0 1))
  have q0 := rm_nC hM
  have q1 := wo_nC hO
  have q2 := rm_nS hM
  have q3 := wo_nS hO
  refine ev_ald0 1 dX12_enroll_0 rfl ?_
  refine ev_ald0 2 dX12_enroll_1 rfl ?_
  refine ev_ild1 3 dX12_enroll_2 rfl ?_
  refine ev_ild2 4 dX12_enroll_3 rfl ?_
  refine tc_V2 7 14 dX12_enroll_4 lkv_X12_214 (tr40 hT) rfl rfl (by first | decide | omega) (Nat.le_of_ble_eq_true rfl) (c_X12_enrollFault_b2 hT hO hM hs hb hn) ?_
  refine tm_V1 10 14 dX12_enroll_7 lkv_X12_144 (tr40 hT) rfl rfl (by first | decide | omega) (Nat.le_of_ble_eq_true rfl) (goes_n hT (by omega)) (fun h X1 hT hP7 => ?_)
  have hM1 := hM
  have hM : RM O X1 := by rw [hP7]; exact rm_th hM1 _
  have q0 := rm_nC hM
  have q2 := rm_nS hM
  refine tj_if_ne 15 13 dX12_enroll_10 (by decide) rfl (by first | exact TR.rng hT _ _ _ | exact R31_of _ | exact bi_R _ | (constructor <;> omega)) (fun c10 => ?_) (fun c10 => ?_)
  · exact False.elim (by omega)
  · skip
    refine tj_iconst 14 dX12_enroll_13 rfl ?_
    exact tz_retcU (by first | rfl | omega | exact bi_dt (by omega) | exact bi_df (by omega) | (skip)) (by first | decide | omega) hT (by assumption) rfl dX12_enroll_14
theorem efK {g : Gt} {M : Mt} {d : Nat} {av : List Value} {h : AH} {x y : Int} (c : Pr g M d av h (some (.int (J x)))) (e : x = y) : Pr g M d av h (some (.int (J y))) := by
  rw [← e]; exact c
set_option maxRecDepth 100000 in
set_option maxHeartbeats 4000000 in
theorem c_X12_enroll_x2 {g : Gt} {α : AL} {ν : Nat → Nat → Bool} {X : XM} {h : AH} (hT : TR g α ν X h) {O : XM} (hO : WO O) (hM : RM O X) {s : Nat} (hs : (s : Int) < nS O) {c : Nat} (hc : (c : Int) < nC O) (hv : ltr O s c = 100) : Mu g α ν M_X12_enroll 27 [.ref (α 40 0), .int (J (s : Int)), .int (J (c : Int))] h (some (.int (J (0)))) (fun X' => X' = xs X 40 0 0 2) := by
  refine mu_of rfl rfl (ls := [some (.ref (α 40 0)), some (.int (J (s : Int))), some (.int (J (c : Int))), none]) rfl (Nat.le_of_ble_eq_true rfl) ?_
  show Ev g M_X12_enroll 27 0 [some (.ref (α 40 0)), some (.int (J (s : Int))), some (.int (J (c : Int))), none] [] h 0 0 (UQ g α ν (some (.int (J (0)))) (fun X' => X' = xs X 40 0 0 2))
  have q0 := rm_nC hM
  have q1 := wo_nC hO
  have q2 := rm_nS hM
  have q3 := wo_nS hO
  refine ev_ald0 1 dX12_enroll_0 rfl ?_
  refine ev_ald0 2 dX12_enroll_1 rfl ?_
  refine ev_ild1 3 dX12_enroll_2 rfl ?_
  refine ev_ild2 4 dX12_enroll_3 rfl ?_
  refine tc_V2 7 14 dX12_enroll_4 lkv_X12_214 (tr40 hT) rfl rfl (by first | decide | omega) (Nat.le_of_ble_eq_true rfl) (efK (c_X12_enrollFault_ok hT hO hM hs hc) (show cod (ltr O s c) = 2 by rw [hv]; rfl)) ?_
  refine tm_V1 10 14 dX12_enroll_7 lkv_X12_144 (tr40 hT) rfl rfl (by first | decide | omega) (Nat.le_of_ble_eq_true rfl) (goes_n hT (by omega)) (fun h X1 hT hP7 => ?_)
  have hM1 := hM
  have hM : RM O X1 := by rw [hP7]; exact rm_th hM1 _
  have q0 := rm_nC hM
  have q2 := rm_nS hM
  refine tj_if_ne 15 13 dX12_enroll_10 (by decide) rfl (by first | exact TR.rng hT _ _ _ | exact R31_of _ | exact bi_R _ | (constructor <;> omega)) (fun c10 => ?_) (fun c10 => ?_)
  · exact False.elim (by omega)
  · skip
    refine tj_iconst 14 dX12_enroll_13 rfl ?_
    exact tz_retcU (by first | rfl | omega | exact bi_dt (by omega) | exact bi_df (by omega) | (skip)) (by first | decide | omega) hT (by assumption) rfl dX12_enroll_14
set_option maxRecDepth 100000 in
set_option maxHeartbeats 4000000 in
theorem c_X12_enroll_x3 {g : Gt} {α : AL} {ν : Nat → Nat → Bool} {X : XM} {h : AH} (hT : TR g α ν X h) {O : XM} (hO : WO O) (hM : RM O X) {s : Nat} (hs : (s : Int) < nS O) {c : Nat} (hc : (c : Int) < nC O) (hv : ltr O s c = 105) : Mu g α ν M_X12_enroll 27 [.ref (α 40 0), .int (J (s : Int)), .int (J (c : Int))] h (some (.int (J (0)))) (fun X' => X' = xs X 40 0 0 3) := by
  refine mu_of rfl rfl (ls := [some (.ref (α 40 0)), some (.int (J (s : Int))), some (.int (J (c : Int))), none]) rfl (Nat.le_of_ble_eq_true rfl) ?_
  show Ev g M_X12_enroll 27 0 [some (.ref (α 40 0)), some (.int (J (s : Int))), some (.int (J (c : Int))), none] [] h 0 0 (UQ g α ν (some (.int (J (0)))) (fun X' => X' = xs X 40 0 0 3))
  have q0 := rm_nC hM
  have q1 := wo_nC hO
  have q2 := rm_nS hM
  have q3 := wo_nS hO
  refine ev_ald0 1 dX12_enroll_0 rfl ?_
  refine ev_ald0 2 dX12_enroll_1 rfl ?_
  refine ev_ild1 3 dX12_enroll_2 rfl ?_
  refine ev_ild2 4 dX12_enroll_3 rfl ?_
  refine tc_V2 7 14 dX12_enroll_4 lkv_X12_214 (tr40 hT) rfl rfl (by first | decide | omega) (Nat.le_of_ble_eq_true rfl) (efK (c_X12_enrollFault_ok hT hO hM hs hc) (show cod (ltr O s c) = 3 by rw [hv]; rfl)) ?_
  refine tm_V1 10 14 dX12_enroll_7 lkv_X12_144 (tr40 hT) rfl rfl (by first | decide | omega) (Nat.le_of_ble_eq_true rfl) (goes_n hT (by omega)) (fun h X1 hT hP7 => ?_)
  have hM1 := hM
  have hM : RM O X1 := by rw [hP7]; exact rm_th hM1 _
  have q0 := rm_nC hM
  have q2 := rm_nS hM
  refine tj_if_ne 15 13 dX12_enroll_10 (by decide) rfl (by first | exact TR.rng hT _ _ _ | exact R31_of _ | exact bi_R _ | (constructor <;> omega)) (fun c10 => ?_) (fun c10 => ?_)
  · exact False.elim (by omega)
  · skip
    refine tj_iconst 14 dX12_enroll_13 rfl ?_
    exact tz_retcU (by first | rfl | omega | exact bi_dt (by omega) | exact bi_df (by omega) | (skip)) (by first | decide | omega) hT (by assumption) rfl dX12_enroll_14
set_option maxRecDepth 100000 in
set_option maxHeartbeats 4000000 in
theorem c_X12_enroll_x4a {g : Gt} {α : AL} {ν : Nat → Nat → Bool} {X : XM} {h : AH} (hT : TR g α ν X h) {O : XM} (hO : WO O) (hM : RM O X) {s : Nat} (hs : (s : Int) < nS O) {c : Nat} (hc : (c : Int) < nC O) (hv : ltr O s c = 114) : Mu g α ν M_X12_enroll 27 [.ref (α 40 0), .int (J (s : Int)), .int (J (c : Int))] h (some (.int (J (0)))) (fun X' => X' = xs X 40 0 0 4) := by
  refine mu_of rfl rfl (ls := [some (.ref (α 40 0)), some (.int (J (s : Int))), some (.int (J (c : Int))), none]) rfl (Nat.le_of_ble_eq_true rfl) ?_
  show Ev g M_X12_enroll 27 0 [some (.ref (α 40 0)), some (.int (J (s : Int))), some (.int (J (c : Int))), none] [] h 0 0 (UQ g α ν (some (.int (J (0)))) (fun X' => X' = xs X 40 0 0 4))
  have q0 := rm_nC hM
  have q1 := wo_nC hO
  have q2 := rm_nS hM
  have q3 := wo_nS hO
  refine ev_ald0 1 dX12_enroll_0 rfl ?_
  refine ev_ald0 2 dX12_enroll_1 rfl ?_
  refine ev_ild1 3 dX12_enroll_2 rfl ?_
  refine ev_ild2 4 dX12_enroll_3 rfl ?_
  refine tc_V2 7 14 dX12_enroll_4 lkv_X12_214 (tr40 hT) rfl rfl (by first | decide | omega) (Nat.le_of_ble_eq_true rfl) (efK (c_X12_enrollFault_ok hT hO hM hs hc) (show cod (ltr O s c) = 4 by rw [hv]; rfl)) ?_
  refine tm_V1 10 14 dX12_enroll_7 lkv_X12_144 (tr40 hT) rfl rfl (by first | decide | omega) (Nat.le_of_ble_eq_true rfl) (goes_n hT (by omega)) (fun h X1 hT hP7 => ?_)
  have hM1 := hM
  have hM : RM O X1 := by rw [hP7]; exact rm_th hM1 _
  have q0 := rm_nC hM
  have q2 := rm_nS hM
  refine tj_if_ne 15 13 dX12_enroll_10 (by decide) rfl (by first | exact TR.rng hT _ _ _ | exact R31_of _ | exact bi_R _ | (constructor <;> omega)) (fun c10 => ?_) (fun c10 => ?_)
  · exact False.elim (by omega)
  · skip
    refine tj_iconst 14 dX12_enroll_13 rfl ?_
    exact tz_retcU (by first | rfl | omega | exact bi_dt (by omega) | exact bi_df (by omega) | (skip)) (by first | decide | omega) hT (by assumption) rfl dX12_enroll_14
set_option maxRecDepth 100000 in
set_option maxHeartbeats 4000000 in
theorem c_X12_enroll_x4b {g : Gt} {α : AL} {ν : Nat → Nat → Bool} {X : XM} {h : AH} (hT : TR g α ν X h) {O : XM} (hO : WO O) (hM : RM O X) {s : Nat} (hs : (s : Int) < nS O) {c : Nat} (hc : (c : Int) < nC O) (hv : ltr O s c = 97) : Mu g α ν M_X12_enroll 27 [.ref (α 40 0), .int (J (s : Int)), .int (J (c : Int))] h (some (.int (J (0)))) (fun X' => X' = xs X 40 0 0 4) := by
  refine mu_of rfl rfl (ls := [some (.ref (α 40 0)), some (.int (J (s : Int))), some (.int (J (c : Int))), none]) rfl (Nat.le_of_ble_eq_true rfl) ?_
  show Ev g M_X12_enroll 27 0 [some (.ref (α 40 0)), some (.int (J (s : Int))), some (.int (J (c : Int))), none] [] h 0 0 (UQ g α ν (some (.int (J (0)))) (fun X' => X' = xs X 40 0 0 4))
  have q0 := rm_nC hM
  have q1 := wo_nC hO
  have q2 := rm_nS hM
  have q3 := wo_nS hO
  refine ev_ald0 1 dX12_enroll_0 rfl ?_
  refine ev_ald0 2 dX12_enroll_1 rfl ?_
  refine ev_ild1 3 dX12_enroll_2 rfl ?_
  refine ev_ild2 4 dX12_enroll_3 rfl ?_
  refine tc_V2 7 14 dX12_enroll_4 lkv_X12_214 (tr40 hT) rfl rfl (by first | decide | omega) (Nat.le_of_ble_eq_true rfl) (efK (c_X12_enrollFault_ok hT hO hM hs hc) (show cod (ltr O s c) = 4 by rw [hv]; rfl)) ?_
  refine tm_V1 10 14 dX12_enroll_7 lkv_X12_144 (tr40 hT) rfl rfl (by first | decide | omega) (Nat.le_of_ble_eq_true rfl) (goes_n hT (by omega)) (fun h X1 hT hP7 => ?_)
  have hM1 := hM
  have hM : RM O X1 := by rw [hP7]; exact rm_th hM1 _
  have q0 := rm_nC hM
  have q2 := rm_nS hM
  refine tj_if_ne 15 13 dX12_enroll_10 (by decide) rfl (by first | exact TR.rng hT _ _ _ | exact R31_of _ | exact bi_R _ | (constructor <;> omega)) (fun c10 => ?_) (fun c10 => ?_)
  · exact False.elim (by omega)
  · skip
    refine tj_iconst 14 dX12_enroll_13 rfl ?_
    exact tz_retcU (by first | rfl | omega | exact bi_dt (by omega) | exact bi_df (by omega) | (skip)) (by first | decide | omega) hT (by assumption) rfl dX12_enroll_14
set_option maxRecDepth 100000 in
set_option maxHeartbeats 4000000 in
theorem c_X12_enroll_x5 {g : Gt} {α : AL} {ν : Nat → Nat → Bool} {X : XM} {h : AH} (hT : TR g α ν X h) {O : XM} (hO : WO O) (hM : RM O X) {s : Nat} (hs : (s : Int) < nS O) {c : Nat} (hc : (c : Int) < nC O) (hv : ltr O s c = 99) : Mu g α ν M_X12_enroll 27 [.ref (α 40 0), .int (J (s : Int)), .int (J (c : Int))] h (some (.int (J (0)))) (fun X' => X' = xs X 40 0 0 5) := by
  refine mu_of rfl rfl (ls := [some (.ref (α 40 0)), some (.int (J (s : Int))), some (.int (J (c : Int))), none]) rfl (Nat.le_of_ble_eq_true rfl) ?_
  show Ev g M_X12_enroll 27 0 [some (.ref (α 40 0)), some (.int (J (s : Int))), some (.int (J (c : Int))), none] [] h 0 0 (UQ g α ν (some (.int (J (0)))) (fun X' => X' = xs X 40 0 0 5))
  have q0 := rm_nC hM
  have q1 := wo_nC hO
  have q2 := rm_nS hM
  have q3 := wo_nS hO
  refine ev_ald0 1 dX12_enroll_0 rfl ?_
  refine ev_ald0 2 dX12_enroll_1 rfl ?_
  refine ev_ild1 3 dX12_enroll_2 rfl ?_
  refine ev_ild2 4 dX12_enroll_3 rfl ?_
  refine tc_V2 7 14 dX12_enroll_4 lkv_X12_214 (tr40 hT) rfl rfl (by first | decide | omega) (Nat.le_of_ble_eq_true rfl) (efK (c_X12_enrollFault_ok hT hO hM hs hc) (show cod (ltr O s c) = 5 by rw [hv]; rfl)) ?_
  refine tm_V1 10 14 dX12_enroll_7 lkv_X12_144 (tr40 hT) rfl rfl (by first | decide | omega) (Nat.le_of_ble_eq_true rfl) (goes_n hT (by omega)) (fun h X1 hT hP7 => ?_)
  have hM1 := hM
  have hM : RM O X1 := by rw [hP7]; exact rm_th hM1 _
  have q0 := rm_nC hM
  have q2 := rm_nS hM
  refine tj_if_ne 15 13 dX12_enroll_10 (by decide) rfl (by first | exact TR.rng hT _ _ _ | exact R31_of _ | exact bi_R _ | (constructor <;> omega)) (fun c10 => ?_) (fun c10 => ?_)
  · exact False.elim (by omega)
  · skip
    refine tj_iconst 14 dX12_enroll_13 rfl ?_
    exact tz_retcU (by first | rfl | omega | exact bi_dt (by omega) | exact bi_df (by omega) | (skip)) (by first | decide | omega) hT (by assumption) rfl dX12_enroll_14
set_option maxRecDepth 100000 in
set_option maxHeartbeats 4000000 in
theorem c_X12_enroll_x6 {g : Gt} {α : AL} {ν : Nat → Nat → Bool} {X : XM} {h : AH} (hT : TR g α ν X h) {O : XM} (hO : WO O) (hM : RM O X) {s : Nat} (hs : (s : Int) < nS O) {c : Nat} (hc : (c : Int) < nC O) (hv : ltr O s c = 102) : Mu g α ν M_X12_enroll 27 [.ref (α 40 0), .int (J (s : Int)), .int (J (c : Int))] h (some (.int (J (0)))) (fun X' => X' = xs X 40 0 0 6) := by
  refine mu_of rfl rfl (ls := [some (.ref (α 40 0)), some (.int (J (s : Int))), some (.int (J (c : Int))), none]) rfl (Nat.le_of_ble_eq_true rfl) ?_
  show Ev g M_X12_enroll 27 0 [some (.ref (α 40 0)), some (.int (J (s : Int))), some (.int (J (c : Int))), none] [] h 0 0 (UQ g α ν (some (.int (J (0)))) (fun X' => X' = xs X 40 0 0 6))
  have q0 := rm_nC hM
  have q1 := wo_nC hO
  have q2 := rm_nS hM
  have q3 := wo_nS hO
  refine ev_ald0 1 dX12_enroll_0 rfl ?_
  refine ev_ald0 2 dX12_enroll_1 rfl ?_
  refine ev_ild1 3 dX12_enroll_2 rfl ?_
  refine ev_ild2 4 dX12_enroll_3 rfl ?_
  refine tc_V2 7 14 dX12_enroll_4 lkv_X12_214 (tr40 hT) rfl rfl (by first | decide | omega) (Nat.le_of_ble_eq_true rfl) (efK (c_X12_enrollFault_ok hT hO hM hs hc) (show cod (ltr O s c) = 6 by rw [hv]; rfl)) ?_
  refine tm_V1 10 14 dX12_enroll_7 lkv_X12_144 (tr40 hT) rfl rfl (by first | decide | omega) (Nat.le_of_ble_eq_true rfl) (goes_n hT (by omega)) (fun h X1 hT hP7 => ?_)
  have hM1 := hM
  have hM : RM O X1 := by rw [hP7]; exact rm_th hM1 _
  have q0 := rm_nC hM
  have q2 := rm_nS hM
  refine tj_if_ne 15 13 dX12_enroll_10 (by decide) rfl (by first | exact TR.rng hT _ _ _ | exact R31_of _ | exact bi_R _ | (constructor <;> omega)) (fun c10 => ?_) (fun c10 => ?_)
  · exact False.elim (by omega)
  · skip
    refine tj_iconst 14 dX12_enroll_13 rfl ?_
    exact tz_retcU (by first | rfl | omega | exact bi_dt (by omega) | exact bi_df (by omega) | (skip)) (by first | decide | omega) hT (by assumption) rfl dX12_enroll_14
set_option maxRecDepth 100000 in
set_option maxHeartbeats 4000000 in
theorem c_X12_enroll_okt {g : Gt} {α : AL} {ν : Nat → Nat → Bool} {X : XM} {h : AH} (hT : TR g α ν X h) {O : XM} (hO : WO O) (hM : RM O X) {s : Nat} (hs : (s : Int) < nS O) {c : Nat} (hc : (c : Int) < nC O) (hv : ltr O s c = 101) (hf : 0 < free O c (O 4 s 0)) (h9 : O 9 s c ≤ 2) : Mu g α ν M_X12_enroll 27 [.ref (α 40 0), .int (J (s : Int)), .int (J (c : Int))] h (some (.int (J 101))) (fun X' => RM (gv (xs O 5 s c 1)) X' ∧ CZ X X' 0) := by
  refine mu_of rfl rfl (ls := [some (.ref (α 40 0)), some (.int (J (s : Int))), some (.int (J (c : Int))), none]) rfl (Nat.le_of_ble_eq_true rfl) ?_
  show Ev g M_X12_enroll 27 0 [some (.ref (α 40 0)), some (.int (J (s : Int))), some (.int (J (c : Int))), none] [] h 0 0 (UQ g α ν (some (.int (J 101))) (fun X' => RM (gv (xs O 5 s c 1)) X' ∧ CZ X X' 0))
  have q0 := rm_nC hM
  have q1 := wo_nC hO
  have q2 := rm_nS hM
  have q3 := wo_nS hO
  have q4 := rm_maj hM s hs
  have q5 := wo_maj hO s hs
  have q6 := free_0 hO hc (O 4 s 0)
  refine ev_ald0 1 dX12_enroll_0 rfl ?_
  refine ev_ald0 2 dX12_enroll_1 rfl ?_
  refine ev_ild1 3 dX12_enroll_2 rfl ?_
  refine ev_ild2 4 dX12_enroll_3 rfl ?_
  refine tc_V2 7 14 dX12_enroll_4 lkv_X12_214 (tr40 hT) rfl rfl (by first | decide | omega) (Nat.le_of_ble_eq_true rfl) (efK (c_X12_enrollFault_ok hT hO hM hs hc) (show cod (ltr O s c) = 0 by rw [hv]; rfl)) ?_
  refine tm_V1 10 14 dX12_enroll_7 lkv_X12_144 (tr40 hT) rfl rfl (by first | decide | omega) (Nat.le_of_ble_eq_true rfl) (goes_0 hT) (fun h X1 hT hP7 => ?_)
  have hM1 := hM
  have hM : RM O X1 := by rw [hP7]; exact rm_th hM1 _
  have q0 := rm_nC hM
  have q2 := rm_nS hM
  refine tj_if_ne 15 13 dX12_enroll_10 (by decide) rfl (by first | exact TR.rng hT _ _ _ | exact R31_of _ | exact bi_R _ | (constructor <;> omega)) (fun c10 => ?_) (fun c10 => ?_)
  · skip
    have q4 := rm_maj hM s hs
    have q5 := wo_maj hO s hs
    have q6 := free_0 hO hc (O 4 s 0)
    have t3 := rm_tak hM s hs
    have t31 := t3.1
    have hbs := bitsE_set t3 (c := c) (by omega) (f2 := xs O 5 s c 1 5 s) (by rw [xs_at, if_pos rfl]; decide) (fun j hj => by rw [xs_at, if_neg hj])
    have hb1 := hbs.1
    have hb2 := hbs.2.1
    refine ev_ald0 16 dX12_enroll_15 rfl ?_
    refine ev_ild2 17 dX12_enroll_16 rfl ?_
    refine ev_ald0 18 dX12_enroll_17 rfl ?_
    refine ev_getfield 21 14 11 fl_X12_28_14 (tr40 hT) rfl dX12_enroll_18 rfl ?_
    refine ev_ild1 22 dX12_enroll_21 rfl ?_
    refine tv_iald 23 (tr51 hT) (s) (by omega) (by omega) (by omega) dX12_enroll_22 rfl ?_
    refine tc_V2 26 14 dX12_enroll_23 lkv_X12_170 (tr40 hT) rfl rfl (by first | decide | omega) (Nat.le_of_ble_eq_true rfl) (frM q4 (c_X12_freeFor hT hO hM (by omega) (by first | exact TR.rng hT _ _ _ | exact R31_of _ | exact bi_R _ | (constructor <;> omega)))) ?_
    refine tj_if_le 33 29 dX12_enroll_26 (by decide) rfl (by first | exact TR.rng hT _ _ _ | exact R31_of _ | exact bi_R _ | (constructor <;> omega)) (fun c26 => ?_) (fun c26 => ?_)
    · exact False.elim (by omega)
    · skip
      refine tj_iconst 30 dX12_enroll_29 rfl ?_
      refine ev_goto 34 dX12_enroll_30 (by decide) ?_
      refine ev_ist3 35 dX12_enroll_34 rfl (by decide) rfl ?_
      refine ev_ild3 36 dX12_enroll_35 rfl ?_
      refine tj_if_eq 54 39 dX12_enroll_36 (by decide) rfl (by first | exact TR.rng hT _ _ _ | exact R31_of _ | exact bi_R _ | (constructor <;> omega)) (fun c36 => ?_) (fun c36 => ?_)
      · exact False.elim (by omega)
      · skip
        refine ev_ald0 40 dX12_enroll_39 rfl ?_
        refine ev_getfield 43 14 12 fl_X12_31_14 (tr40 hT) rfl dX12_enroll_40 rfl ?_
        refine ev_ild1 44 dX12_enroll_43 rfl ?_
        refine ev_dup2 45 dX12_enroll_44 rfl rfl rfl ?_
        refine tv_iald 46 (tr52 hT) (s) (by omega) (by omega) (by omega) dX12_enroll_45 rfl ?_
        refine tj_iconst 47 dX12_enroll_46 rfl ?_
        refine ev_ild2 48 dX12_enroll_47 rfl ?_
        refine tj_ishl 49 dX12_enroll_48 1 c rfl rfl (by omega) rfl ?_
        refine tj_ior 50 dX12_enroll_49 (X1 52 0 s).toNat (1 <<< c) (by omega) rfl rfl ?_
        refine tv_iast 51 hT (tv52 hT) (fun _ => rfl) (s) (by omega) (by omega) (by omega) (by first | exact TR.rng hT _ _ _ | exact R31_of _ | exact bi_R _ | (constructor <;> omega)) dX12_enroll_50 rfl (fun h hT => ?_)
        obtain ⟨X3, hX3⟩ : ∃ Z, Z = xs X1 52 0 s (((X1 52 0 s).toNat ||| 1 <<< c : Nat) : Int) := ⟨_, rfl⟩
        rw [← hX3] at hT
        have hM3 : RM (xs O 5 s c 1) X3 := by rw [hX3]; exact rm_t1 hM hs (by omega) (by omega) (fun k _ _ q => xs_nk q) (fun j => xs_at _ _ _ _ _ _)
        have hC3 : CZ X X3 0 := by rw [hX3, hP7]; exact (CZ.go X 0).st (by decide)
        refine ev_goto 81 dX12_enroll_51 (by decide) ?_
        refine ev_ald0 82 dX12_enroll_81 rfl ?_
        refine tmv_V0 85 14 dX12_enroll_82 lkv_X12_193 (tr40 hT) rfl rfl (by first | decide | omega) (Nat.le_of_ble_eq_true rfl) (c_X12_givesOut hT (wo_t1 hO hs hc h9) hM3) (fun h X1 hT hP82 => ?_)
        refine ev_ild3 86 dX12_enroll_85 rfl ?_
        refine tj_if_eq 94 89 dX12_enroll_86 (by decide) rfl (by first | exact TR.rng hT _ _ _ | exact R31_of _ | exact bi_R _ | (constructor <;> omega)) (fun c86 => ?_) (fun c86 => ?_)
        · exact False.elim (by omega)
        · skip
          refine tj_bipush 91 dX12_enroll_89 (by decide) rfl ?_
          refine ev_goto 96 dX12_enroll_91 (by decide) ?_
          exact tz_retcU (by first | rfl | omega | exact bi_dt (by omega) | exact bi_df (by omega) | (skip)) (by first | decide | omega) hT (by exact ⟨hP82.1, hC3.fm hP82.2⟩) rfl dX12_enroll_96
  · exact False.elim (by omega)
set_option maxRecDepth 100000 in
set_option maxHeartbeats 4000000 in
theorem c_X12_enroll_okw {g : Gt} {α : AL} {ν : Nat → Nat → Bool} {X : XM} {h : AH} (hT : TR g α ν X h) {O : XM} (hO : WO O) (hM : RM O X) {s : Nat} (hs : (s : Int) < nS O) {c : Nat} (hc : (c : Int) < nC O) (hv : ltr O s c = 119) (hf : ¬ 0 < free O c (O 4 s 0)) (h6 : O 1 (4 + c) 2 < 6) {β β' : AL} {μ μ' : Nat → Nat → Bool} {O' : XM} (hA : ADD β μ O (4 + c) s β' μ' O') (hO' : WO O') : Mu g α ν M_X12_enroll 27 [.ref (α 40 0), .int (J (s : Int)), .int (J (c : Int))] h (some (.int (J 119))) (fun X' => RM (gv O') X' ∧ CZ X X' 0) := by
  refine mu_of rfl rfl (ls := [some (.ref (α 40 0)), some (.int (J (s : Int))), some (.int (J (c : Int))), none]) rfl (Nat.le_of_ble_eq_true rfl) ?_
  show Ev g M_X12_enroll 27 0 [some (.ref (α 40 0)), some (.int (J (s : Int))), some (.int (J (c : Int))), none] [] h 0 0 (UQ g α ν (some (.int (J 119))) (fun X' => RM (gv O') X' ∧ CZ X X' 0))
  have q0 := rm_nC hM
  have q1 := wo_nC hO
  have q2 := rm_nS hM
  have q3 := wo_nS hO
  have q4 := rm_maj hM s hs
  have q5 := wo_maj hO s hs
  have q6 := free_0 hO hc (O 4 s 0)
  refine ev_ald0 1 dX12_enroll_0 rfl ?_
  refine ev_ald0 2 dX12_enroll_1 rfl ?_
  refine ev_ild1 3 dX12_enroll_2 rfl ?_
  refine ev_ild2 4 dX12_enroll_3 rfl ?_
  refine tc_V2 7 14 dX12_enroll_4 lkv_X12_214 (tr40 hT) rfl rfl (by first | decide | omega) (Nat.le_of_ble_eq_true rfl) (efK (c_X12_enrollFault_ok hT hO hM hs hc) (show cod (ltr O s c) = 0 by rw [hv]; rfl)) ?_
  refine tm_V1 10 14 dX12_enroll_7 lkv_X12_144 (tr40 hT) rfl rfl (by first | decide | omega) (Nat.le_of_ble_eq_true rfl) (goes_0 hT) (fun h X1 hT hP7 => ?_)
  have hM1 := hM
  have hM : RM O X1 := by rw [hP7]; exact rm_th hM1 _
  have q0 := rm_nC hM
  have q2 := rm_nS hM
  refine tj_if_ne 15 13 dX12_enroll_10 (by decide) rfl (by first | exact TR.rng hT _ _ _ | exact R31_of _ | exact bi_R _ | (constructor <;> omega)) (fun c10 => ?_) (fun c10 => ?_)
  · skip
    have q4 := rm_maj hM s hs
    have q5 := wo_maj hO s hs
    have q6 := free_0 hO hc (O 4 s 0)
    have w1 := rm_wN hM c hc
    have w2 := wo_wN hO c hc
    obtain ⟨w, hw⟩ : ∃ w : Nat, O 1 (4 + c) 2 = (w : Int) := ⟨(O 1 (4 + c) 2).toNat, by omega⟩
    refine ev_ald0 16 dX12_enroll_15 rfl ?_
    refine ev_ild2 17 dX12_enroll_16 rfl ?_
    refine ev_ald0 18 dX12_enroll_17 rfl ?_
    refine ev_getfield 21 14 11 fl_X12_28_14 (tr40 hT) rfl dX12_enroll_18 rfl ?_
    refine ev_ild1 22 dX12_enroll_21 rfl ?_
    refine tv_iald 23 (tr51 hT) (s) (by omega) (by omega) (by omega) dX12_enroll_22 rfl ?_
    refine tc_V2 26 14 dX12_enroll_23 lkv_X12_170 (tr40 hT) rfl rfl (by first | decide | omega) (Nat.le_of_ble_eq_true rfl) (frM q4 (c_X12_freeFor hT hO hM (by omega) (by first | exact TR.rng hT _ _ _ | exact R31_of _ | exact bi_R _ | (constructor <;> omega)))) ?_
    refine tj_if_le 33 29 dX12_enroll_26 (by decide) rfl (by first | exact TR.rng hT _ _ _ | exact R31_of _ | exact bi_R _ | (constructor <;> omega)) (fun c26 => ?_) (fun c26 => ?_)
    · skip
      refine tj_iconst 34 dX12_enroll_33 rfl ?_
      refine ev_ist3 35 dX12_enroll_34 rfl (by decide) rfl ?_
      refine ev_ild3 36 dX12_enroll_35 rfl ?_
      refine tj_if_eq 54 39 dX12_enroll_36 (by decide) rfl (by first | exact TR.rng hT _ _ _ | exact R31_of _ | exact bi_R _ | (constructor <;> omega)) (fun c36 => ?_) (fun c36 => ?_)
      · skip
        refine ev_ald0 55 dX12_enroll_54 rfl ?_
        refine ev_getfield 58 14 9 fl_X12_25_14 (tr40 hT) rfl dX12_enroll_55 rfl ?_
        refine tj_bipush 60 dX12_enroll_58 (by decide) rfl ?_
        refine ev_ild2 61 dX12_enroll_60 rfl ?_
        refine tj_imul 62 dX12_enroll_61 rfl ?_
        refine ev_ald0 63 dX12_enroll_62 rfl ?_
        refine ev_getfield 66 14 8 fl_X12_22_14 (tr40 hT) rfl dX12_enroll_63 rfl ?_
        refine ev_ild2 67 dX12_enroll_66 rfl ?_
        refine tv_iald 68 (tr48 hT) (c) (by omega) (by omega) (by omega) dX12_enroll_67 rfl ?_
        refine tj_iadd 69 dX12_enroll_68 rfl ?_
        refine ev_ild1 70 dX12_enroll_69 rfl ?_
        refine tv_iast 71 hT (tv49 hT) (fun _ => rfl) (6 * c + w) (by omega) (by omega) (by omega) (by first | exact TR.rng hT _ _ _ | exact R31_of _ | exact bi_R _ | (constructor <;> omega)) dX12_enroll_70 rfl (fun h hT => ?_)
        obtain ⟨X4, hX4⟩ : ∃ Z, Z = xs X1 49 0 (6 * c + w) s := ⟨_, rfl⟩
        rw [← hX4] at hT
        have e48 : X4 48 0 c = O 1 (4 + c) 2 := by rw [hX4, xs_nk (by decide)]; exact w1
        refine ev_ald0 72 dX12_enroll_71 rfl ?_
        refine ev_getfield 75 14 8 fl_X12_22_14 (tr40 hT) rfl dX12_enroll_72 rfl ?_
        refine ev_ild2 76 dX12_enroll_75 rfl ?_
        refine ev_dup2 77 dX12_enroll_76 rfl rfl rfl ?_
        refine tv_iald 78 (tr48 hT) (c) (by omega) (by omega) (by omega) dX12_enroll_77 rfl ?_
        refine tj_iconst 79 dX12_enroll_78 rfl ?_
        refine tj_iadd 80 dX12_enroll_79 rfl ?_
        refine tv_iast 81 hT (tv48 hT) (fun _ => rfl) (c) (by omega) (by omega) (by omega) (by first | exact TR.rng hT _ _ _ | exact R31_of _ | exact bi_R _ | (constructor <;> omega)) dX12_enroll_80 rfl (fun h hT => ?_)
        obtain ⟨X3, hX3⟩ : ∃ Z, Z = xs X4 48 0 c (X4 48 0 c + 1) := ⟨_, rfl⟩
        rw [← hX3] at hT
        have hM3 : RM O' X3 := by rw [hX3]; exact rm_wl hM hO hc hA (fun k _ _ q1 q2 => by rw [xs_nk q1, hX4, xs_nk q2]) (fun j => by rw [xs_at, e48, w1, hX4, xs_nk (by decide)]) (fun j => by rw [xs_nk (by decide), hX4, xs_at, w1, hw]; by_cases q : j = 6 * c + w; (rw [if_pos q, if_pos (by omega)]); (rw [if_neg q, if_neg (by omega)])) h6
        have hC3 : CZ X X3 0 := by rw [hX3, hX4, hP7]; exact ((CZ.go X 0).st (by decide)).st (by decide)
        refine ev_ald0 82 dX12_enroll_81 rfl ?_
        refine tmv_V0 85 14 dX12_enroll_82 lkv_X12_193 (tr40 hT) rfl rfl (by first | decide | omega) (Nat.le_of_ble_eq_true rfl) (c_X12_givesOut hT hO' hM3) (fun h X1 hT hP82 => ?_)
        refine ev_ild3 86 dX12_enroll_85 rfl ?_
        refine tj_if_eq 94 89 dX12_enroll_86 (by decide) rfl (by first | exact TR.rng hT _ _ _ | exact R31_of _ | exact bi_R _ | (constructor <;> omega)) (fun c86 => ?_) (fun c86 => ?_)
        · skip
          refine tj_bipush 96 dX12_enroll_94 (by decide) rfl ?_
          exact tz_retcU (by first | rfl | omega | exact bi_dt (by omega) | exact bi_df (by omega) | (skip)) (by first | decide | omega) hT (by exact ⟨hP82.1, hC3.fm hP82.2⟩) rfl dX12_enroll_96
        · exact False.elim (by omega)
      · exact False.elim (by omega)
    · exact False.elim (by omega)
  · exact False.elim (by omega)
