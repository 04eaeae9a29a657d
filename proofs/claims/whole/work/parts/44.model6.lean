/-! THE REFERENCE: more that ask -/
theorem in_ok {g : Gt} {h : AH} {a b c : Int} (ha : R31 a) (hb : R31 b) (hc : R31 c) (hh : b ≤ a ∧ a ≤ c) : Pr g M_X12_in 0 [.int (J a), .int (J b), .int (J c)] h (some (.int (J 1))) := by
  have k := c_X12_in (g := g) (h := h) ha hb hc
  rw [decide_eq_true hh] at k
  exact k
theorem in_no {g : Gt} {h : AH} {a b c : Int} (ha : R31 a) (hb : R31 b) (hc : R31 c) (hh : ¬ (b ≤ a ∧ a ≤ c)) : Pr g M_X12_in 0 [.int (J a), .int (J b), .int (J c)] h (some (.int (J 0))) := by
  have k := c_X12_in (g := g) (h := h) ha hb hc
  rw [decide_eq_false hh] at k
  exact k
set_option maxRecDepth 100000 in
set_option maxHeartbeats 4000000 in
theorem c_X12_day {g : Gt} {α : AL} {ν : Nat → Nat → Bool} {X : XM} {h : AH} (hT : TR g α ν X h) {O : XM} (hO : WO O) (hM : RM O X) : Mu g α ν M_X12_day 27 [.ref (α 40 0)] h (some (.int (J (O 0 0 5)))) (fun X' => X' = xs X 40 0 0 0) := by
  refine mu_of rfl rfl (ls := [some (.ref (α 40 0))]) rfl (Nat.le_of_ble_eq_true rfl) ?_
  show Ev g M_X12_day 27 0 [some (.ref (α 40 0))] [] h 0 0 (UQ g α ν (some (.int (J (O 0 0 5)))) (fun X' => X' = xs X 40 0 0 0))
  have w4 := rm_day hM
  refine ev_ald0 1 dX12_day_0 rfl ?_
  refine tj_iconst 2 dX12_day_1 rfl ?_
  refine tv_puti 5 0 .int fl_X12_89_14 fp_14_0 hT (tv40 hT) (fun _ => rfl) rfl (Nat.le_of_ble_eq_true rfl) rfl rfl (by first | exact TR.rng hT _ _ _ | exact R31_of _ | exact bi_R _ | (constructor <;> omega)) dX12_day_2 rfl (fun h hT => ?_)
  refine ev_ald0 6 dX12_day_5 rfl ?_
  refine ev_getfield 9 14 1 fl_X12_164_14 (tr40 hT) rfl dX12_day_6 rfl ?_
  exact ev_ireturn (uq_i (by first | rfl | omega | exact bi_dt (by omega) | exact bi_df (by omega) | (rw [xs_at, if_neg (by decide)]; exact w4)) hT (by rfl)) rfl dX12_day_9
set_option maxRecDepth 100000 in
set_option maxHeartbeats 4000000 in
theorem c_X12_term {g : Gt} {α : AL} {ν : Nat → Nat → Bool} {X : XM} {h : AH} (hT : TR g α ν X h) {O : XM} (hO : WO O) (hM : RM O X) : Mu g α ν M_X12_term 27 [.ref (α 40 0)] h (some (.int (J (O 0 0 6)))) (fun X' => X' = xs X 40 0 0 0) := by
  refine mu_of rfl rfl (ls := [some (.ref (α 40 0))]) rfl (Nat.le_of_ble_eq_true rfl) ?_
  show Ev g M_X12_term 27 0 [some (.ref (α 40 0))] [] h 0 0 (UQ g α ν (some (.int (J (O 0 0 6)))) (fun X' => X' = xs X 40 0 0 0))
  have w4 := rm_term hM
  refine ev_ald0 1 dX12_term_0 rfl ?_
  refine tj_iconst 2 dX12_term_1 rfl ?_
  refine tv_puti 5 0 .int fl_X12_89_14 fp_14_0 hT (tv40 hT) (fun _ => rfl) rfl (Nat.le_of_ble_eq_true rfl) rfl rfl (by first | exact TR.rng hT _ _ _ | exact R31_of _ | exact bi_R _ | (constructor <;> omega)) dX12_term_2 rfl (fun h hT => ?_)
  refine ev_ald0 6 dX12_term_5 rfl ?_
  refine ev_getfield 9 14 2 fl_X12_199_14 (tr40 hT) rfl dX12_term_6 rfl ?_
  exact ev_ireturn (uq_i (by first | rfl | omega | exact bi_dt (by omega) | exact bi_df (by omega) | (rw [xs_at, if_neg (by decide)]; exact w4)) hT (by rfl)) rfl dX12_term_9
set_option maxRecDepth 100000 in
set_option maxHeartbeats 4000000 in
theorem c_X12_freeSeats_b1 {g : Gt} {α : AL} {ν : Nat → Nat → Bool} {X : XM} {h : AH} (hT : TR g α ν X h) {O : XM} (hO : WO O) (hM : RM O X) {b : Int} (hb : R31 b) (hn : ¬ (0 ≤ b ∧ b < nC O)) {a1 : Int} (ha1 : R31 a1) : Mu g α ν M_X12_freeSeats 27 [.ref (α 40 0), .int (J b), .int (J a1)] h (some (.int (J (0)))) (fun X' => X' = xs X 40 0 0 1) := by
  refine mu_of rfl rfl (ls := [some (.ref (α 40 0)), some (.int (J b)), some (.int (J a1))]) rfl (Nat.le_of_ble_eq_true rfl) ?_
  show Ev g M_X12_freeSeats 27 0 [some (.ref (α 40 0)), some (.int (J b)), some (.int (J a1))] [] h 0 0 (UQ g α ν (some (.int (J (0)))) (fun X' => X' = xs X 40 0 0 1))
  have q0 := rm_nC hM
  have q1 := wo_nC hO
  have q2 := rm_nS hM
  have q3 := wo_nS hO
  refine ev_ald0 1 dX12_freeSeats_0 rfl ?_
  refine ev_ald0 2 dX12_freeSeats_1 rfl ?_
  refine ev_ild1 3 dX12_freeSeats_2 rfl ?_
  refine tc_V1 6 14 dX12_freeSeats_3 lkv_X12_151 (tr40 hT) rfl rfl (by first | decide | omega) (Nat.le_of_ble_eq_true rfl) (isCourse_no hT hO hM hb hn) ?_
  refine tj_if_ne 13 9 dX12_freeSeats_6 (by decide) rfl (by first | exact TR.rng hT _ _ _ | exact R31_of _ | exact bi_R _ | (constructor <;> omega)) (fun c6 => ?_) (fun c6 => ?_)
  · exact False.elim (by omega)
  · skip
    refine tj_iconst 10 dX12_freeSeats_9 rfl ?_
    refine ev_goto 27 dX12_freeSeats_10 (by decide) ?_
    refine tm_V1 30 14 dX12_freeSeats_27 lkv_X12_144 (tr40 hT) rfl rfl (by first | decide | omega) (Nat.le_of_ble_eq_true rfl) (goes_n hT (by omega)) (fun h X1 hT hP27 => ?_)
    have hM1 := hM
    have hM : RM O X1 := by rw [hP27]; exact rm_th hM1 _
    have q0 := rm_nC hM
    have q2 := rm_nS hM
    refine tj_if_eq 42 33 dX12_freeSeats_30 (by decide) rfl (by first | exact TR.rng hT _ _ _ | exact R31_of _ | exact bi_R _ | (constructor <;> omega)) (fun c30 => ?_) (fun c30 => ?_)
    · skip
      refine tj_iconst 43 dX12_freeSeats_42 rfl ?_
      exact ev_ireturn (uq_i (by first | rfl | omega | exact bi_dt (by omega) | exact bi_df (by omega) | (skip)) hT (by assumption)) rfl dX12_freeSeats_43
    · exact False.elim (by omega)
set_option maxRecDepth 100000 in
set_option maxHeartbeats 4000000 in
theorem c_X12_freeSeats_ok {g : Gt} {α : AL} {ν : Nat → Nat → Bool} {X : XM} {h : AH} (hT : TR g α ν X h) {O : XM} (hO : WO O) (hM : RM O X) {c : Nat} (hc : (c : Int) < nC O) {a1 : Int} (ha1 : R31 a1) (hm : 0 ≤ a1 ∧ a1 ≤ 3) : Mu g α ν M_X12_freeSeats 27 [.ref (α 40 0), .int (J (c : Int)), .int (J a1)] h (some (.int (J (free O c a1)))) (fun X' => X' = xs X 40 0 0 0) := by
  refine mu_of rfl rfl (ls := [some (.ref (α 40 0)), some (.int (J (c : Int))), some (.int (J a1))]) rfl (Nat.le_of_ble_eq_true rfl) ?_
  show Ev g M_X12_freeSeats 27 0 [some (.ref (α 40 0)), some (.int (J (c : Int))), some (.int (J a1))] [] h 0 0 (UQ g α ν (some (.int (J (free O c a1)))) (fun X' => X' = xs X 40 0 0 0))
  have q0 := rm_nC hM
  have q1 := wo_nC hO
  have q2 := rm_nS hM
  have q3 := wo_nS hO
  refine ev_ald0 1 dX12_freeSeats_0 rfl ?_
  refine ev_ald0 2 dX12_freeSeats_1 rfl ?_
  refine ev_ild1 3 dX12_freeSeats_2 rfl ?_
  refine tc_V1 6 14 dX12_freeSeats_3 lkv_X12_151 (tr40 hT) rfl rfl (by first | decide | omega) (Nat.le_of_ble_eq_true rfl) (isCourse_ok hT hO hM (by omega)) ?_
  refine tj_if_ne 13 9 dX12_freeSeats_6 (by decide) rfl (by first | exact TR.rng hT _ _ _ | exact R31_of _ | exact bi_R _ | (constructor <;> omega)) (fun c6 => ?_) (fun c6 => ?_)
  · skip
    refine ev_ild2 14 dX12_freeSeats_13 rfl ?_
    refine tj_iconst 15 dX12_freeSeats_14 rfl ?_
    refine tj_iconst 16 dX12_freeSeats_15 rfl ?_
    refine tc_S3 19 dX12_freeSeats_16 lks_X12_96 rfl (by first | decide | omega) (Nat.le_of_ble_eq_true rfl) (in_ok (by first | exact TR.rng hT _ _ _ | exact R31_of _ | exact bi_R _ | (constructor <;> omega)) (by first | exact TR.rng hT _ _ _ | exact R31_of _ | exact bi_R _ | (constructor <;> omega)) (by first | exact TR.rng hT _ _ _ | exact R31_of _ | exact bi_R _ | (constructor <;> omega)) (by omega)) ?_
    refine tj_if_ne 26 22 dX12_freeSeats_19 (by decide) rfl (by first | exact TR.rng hT _ _ _ | exact R31_of _ | exact bi_R _ | (constructor <;> omega)) (fun c19 => ?_) (fun c19 => ?_)
    · skip
      refine tj_iconst 27 dX12_freeSeats_26 rfl ?_
      refine tm_V1 30 14 dX12_freeSeats_27 lkv_X12_144 (tr40 hT) rfl rfl (by first | decide | omega) (Nat.le_of_ble_eq_true rfl) (goes_0 hT) (fun h X1 hT hP27 => ?_)
      have hM1 := hM
      have hM : RM O X1 := by rw [hP27]; exact rm_th hM1 _
      have q0 := rm_nC hM
      have q2 := rm_nS hM
      refine tj_if_eq 42 33 dX12_freeSeats_30 (by decide) rfl (by first | exact TR.rng hT _ _ _ | exact R31_of _ | exact bi_R _ | (constructor <;> omega)) (fun c30 => ?_) (fun c30 => ?_)
      · exact False.elim (by omega)
      · skip
        refine ev_ald0 34 dX12_freeSeats_33 rfl ?_
        refine ev_ild1 35 dX12_freeSeats_34 rfl ?_
        refine ev_ild2 36 dX12_freeSeats_35 rfl ?_
        refine tc_V2 39 14 dX12_freeSeats_36 lkv_X12_170 (tr40 hT) rfl rfl (by first | decide | omega) (Nat.le_of_ble_eq_true rfl) (c_X12_freeFor hT hO hM (by omega) ha1) ?_
        refine ev_goto 43 dX12_freeSeats_39 (by decide) ?_
        exact ev_ireturn (uq_i (by first | rfl | omega | exact bi_dt (by omega) | exact bi_df (by omega) | (skip)) hT (by assumption)) rfl dX12_freeSeats_43
    · exact False.elim (by omega)
  · exact False.elim (by omega)
set_option maxRecDepth 100000 in
set_option maxHeartbeats 4000000 in
theorem c_X12_freeSeats_x2 {g : Gt} {α : AL} {ν : Nat → Nat → Bool} {X : XM} {h : AH} (hT : TR g α ν X h) {O : XM} (hO : WO O) (hM : RM O X) {c : Nat} (hc : (c : Int) < nC O) {a1 : Int} (ha1 : R31 a1) (hm : ¬ (0 ≤ a1 ∧ a1 ≤ 3)) : Mu g α ν M_X12_freeSeats 27 [.ref (α 40 0), .int (J (c : Int)), .int (J a1)] h (some (.int (J (0)))) (fun X' => X' = xs X 40 0 0 2) := by
  refine mu_of rfl rfl (ls := [some (.ref (α 40 0)), some (.int (J (c : Int))), some (.int (J a1))]) rfl (Nat.le_of_ble_eq_true rfl) ?_
  show Ev g M_X12_freeSeats 27 0 [some (.ref (α 40 0)), some (.int (J (c : Int))), some (.int (J a1))] [] h 0 0 (UQ g α ν (some (.int (J (0)))) (fun X' => X' = xs X 40 0 0 2))
  have q0 := rm_nC hM
  have q1 := wo_nC hO
  have q2 := rm_nS hM
  have q3 := wo_nS hO
  refine ev_ald0 1 dX12_freeSeats_0 rfl ?_
  refine ev_ald0 2 dX12_freeSeats_1 rfl ?_
  refine ev_ild1 3 dX12_freeSeats_2 rfl ?_
  refine tc_V1 6 14 dX12_freeSeats_3 lkv_X12_151 (tr40 hT) rfl rfl (by first | decide | omega) (Nat.le_of_ble_eq_true rfl) (isCourse_ok hT hO hM (by omega)) ?_
  refine tj_if_ne 13 9 dX12_freeSeats_6 (by decide) rfl (by first | exact TR.rng hT _ _ _ | exact R31_of _ | exact bi_R _ | (constructor <;> omega)) (fun c6 => ?_) (fun c6 => ?_)
  · skip
    refine ev_ild2 14 dX12_freeSeats_13 rfl ?_
    refine tj_iconst 15 dX12_freeSeats_14 rfl ?_
    refine tj_iconst 16 dX12_freeSeats_15 rfl ?_
    refine tc_S3 19 dX12_freeSeats_16 lks_X12_96 rfl (by first | decide | omega) (Nat.le_of_ble_eq_true rfl) (in_no (by first | exact TR.rng hT _ _ _ | exact R31_of _ | exact bi_R _ | (constructor <;> omega)) (by first | exact TR.rng hT _ _ _ | exact R31_of _ | exact bi_R _ | (constructor <;> omega)) (by first | exact TR.rng hT _ _ _ | exact R31_of _ | exact bi_R _ | (constructor <;> omega)) (by omega)) ?_
    refine tj_if_ne 26 22 dX12_freeSeats_19 (by decide) rfl (by first | exact TR.rng hT _ _ _ | exact R31_of _ | exact bi_R _ | (constructor <;> omega)) (fun c19 => ?_) (fun c19 => ?_)
    · exact False.elim (by omega)
    · skip
      refine tj_iconst 23 dX12_freeSeats_22 rfl ?_
      refine ev_goto 27 dX12_freeSeats_23 (by decide) ?_
      refine tm_V1 30 14 dX12_freeSeats_27 lkv_X12_144 (tr40 hT) rfl rfl (by first | decide | omega) (Nat.le_of_ble_eq_true rfl) (goes_n hT (by omega)) (fun h X1 hT hP27 => ?_)
      have hM1 := hM
      have hM : RM O X1 := by rw [hP27]; exact rm_th hM1 _
      have q0 := rm_nC hM
      have q2 := rm_nS hM
      refine tj_if_eq 42 33 dX12_freeSeats_30 (by decide) rfl (by first | exact TR.rng hT _ _ _ | exact R31_of _ | exact bi_R _ | (constructor <;> omega)) (fun c30 => ?_) (fun c30 => ?_)
      · skip
        refine tj_iconst 43 dX12_freeSeats_42 rfl ?_
        exact ev_ireturn (uq_i (by first | rfl | omega | exact bi_dt (by omega) | exact bi_df (by omega) | (skip)) hT (by assumption)) rfl dX12_freeSeats_43
      · exact False.elim (by omega)
  · exact False.elim (by omega)
set_option maxRecDepth 100000 in
set_option maxHeartbeats 4000000 in
theorem c_X12_allEarned {g : Gt} {α : AL} {ν : Nat → Nat → Bool} {X : XM} {h : AH} (hT : TR g α ν X h) {O : XM} (hO : WO O) (hM : RM O X) : Mu g α ν M_X12_allEarned 27 [.ref (α 40 0)] h (some (.long (Int64.ofInt (allE O (nS O).toNat)))) (fun X' => X' = xs X 40 0 0 0) := by
  refine mu_of rfl rfl (ls := [some (.ref (α 40 0)), none, none, none]) rfl (Nat.le_of_ble_eq_true rfl) ?_
  show Ev g M_X12_allEarned 27 0 [some (.ref (α 40 0)), none, none, none] [] h 0 0 (UQ g α ν (some (.long (Int64.ofInt (allE O (nS O).toNat)))) (fun X' => X' = xs X 40 0 0 0))
  have q0 := rm_nC hM
  have q1 := wo_nC hO
  have q2 := rm_nS hM
  have q3 := wo_nS hO
  refine ev_ald0 1 dX12_allEarned_0 rfl ?_
  refine tj_iconst 2 dX12_allEarned_1 rfl ?_
  refine tv_puti 5 0 .int fl_X12_89_14 fp_14_0 hT (tv40 hT) (fun _ => rfl) rfl (Nat.le_of_ble_eq_true rfl) rfl rfl (by first | exact TR.rng hT _ _ _ | exact R31_of _ | exact bi_R _ | (constructor <;> omega)) dX12_allEarned_2 rfl (fun h hT => ?_)
  obtain ⟨X1, hX1⟩ : ∃ Z, Z = xs X 40 0 0 0 := ⟨_, rfl⟩
  rw [← hX1] at hT
  have hM0 := hM
  have hM : RM O X1 := by rw [hX1]; exact rm_sc hM0 (by decide) _
  have q2 := rm_nS hM
  refine ev_lconst (Int64.ofNat 0) 6 dX12_allEarned_5 rfl rfl ?_
  refine ev_lst1 7 dX12_allEarned_6 rfl (by decide) rfl ?_
  refine tj_iconst 8 dX12_allEarned_7 rfl ?_
  refine ev_ist3 9 dX12_allEarned_8 rfl (by decide) rfl ?_
  have lp9 : ∀ (n9 : Nat) (s : Nat) (z1 : Int64) (z3 : Int) , 17 - s < n9 → ((s : Int) ≤ nS O) → z1 = Int64.ofInt (allE O s) → z3 = (s : Int) → Ev g M_X12_allEarned 27 9 [some (.ref (α 40 0)), some (.long z1), none, some (.int (J z3))] [] h 0 0 (UQ g α ν (some (.long (Int64.ofInt (allE O (nS O).toNat)))) (fun X' => X' = xs X 40 0 0 0)) := by
    intro n9
    induction n9 with
    | zero => intro s z1 z3 hm; exact absurd hm (Nat.not_lt_zero _)
    | succ n9 ih9 =>
      intro s z1 z3 hm9 hs e1 e3
      subst e1
      subst e3
      have qe : 0 ≤ ernd O s ∧ ernd O s ≤ 6 * ((nC O).toNat : Int) := crS_0 hO (psd O s) (nC O).toNat (by omega)
      refine ev_ild3 10 dX12_allEarned_9 rfl ?_
      refine ev_ald0 11 dX12_allEarned_10 rfl ?_
      refine ev_getfield 14 14 10 fl_X12_100_14 (tr40 hT) rfl dX12_allEarned_11 rfl ?_
      refine tj_icmp_ge 32 17 dX12_allEarned_14 (by decide) rfl (by first | exact TR.rng hT _ _ _ | exact R31_of _ | exact bi_R _ | (constructor <;> omega)) (by first | exact TR.rng hT _ _ _ | exact R31_of _ | exact bi_R _ | (constructor <;> omega)) (fun c14 => ?_) (fun c14 => ?_)
      · skip
        refine ev_lld1 33 dX12_allEarned_32 rfl ?_
        exact ev_lreturn ⟨by rw [show s = (nS O).toNat by omega], _, hT, (by exact hX1)⟩ rfl dX12_allEarned_33
      · skip
        refine ev_lld1 18 dX12_allEarned_17 rfl ?_
        refine ev_ald0 19 dX12_allEarned_18 rfl ?_
        refine ev_ild3 20 dX12_allEarned_19 rfl ?_
        refine tc_V1 23 14 dX12_allEarned_20 lkv_X12_127 (tr40 hT) rfl rfl (by first | decide | omega) (Nat.le_of_ble_eq_true rfl) (c_X12_earnedOf hT hO hM (by omega)) ?_
        refine ev_i2l 24 dX12_allEarned_23 rfl ?_
        rw [J_i2l _ (by first | exact TR.rng hT _ _ _ | exact R31_of _ | exact bi_R _ | (constructor <;> omega))]
        refine ev_ladd 25 dX12_allEarned_24 rfl ?_
        refine ev_lst1 26 dX12_allEarned_25 rfl (by decide) rfl ?_
        refine tj_inc3 29 dX12_allEarned_26 rfl (by decide) rfl ?_
        refine ev_goto 9 dX12_allEarned_29 (by decide) ?_
        exact ih9 (s + 1) _ _ (by omega) (by first | omega | assumption | omega) (by first | rfl | omega | (first | decide | (rw [← Int64.ofInt_add]; rfl))) (by first | rfl | omega | (first | decide | (rw [← Int64.ofInt_add]; rfl)))
  exact lp9 _ (0) _ _ (Nat.lt_succ_self _) (by first | omega | assumption | omega) (by first | rfl | omega | (first | decide | (rw [← Int64.ofInt_add]; rfl))) (by first | rfl | omega | (first | decide | (rw [← Int64.ofInt_add]; rfl)))
set_option maxRecDepth 100000 in
set_option maxHeartbeats 4000000 in
theorem c_X12_lastMark {g : Gt} {α : AL} {ν : Nat → Nat → Bool} {X : XM} {h : AH} (hT : TR g α ν X h) {O : XM} (hO : WO O) (hM : RM O X) {s : Nat} (hs : (s : Int) < nS O) {c : Nat} (hc : c < 20) : Pr g M_X12_lastMark 1 [.ref (α 40 0), .int (J (s : Int)), .int (J (c : Int))] h (some (.int (J (lastM O s c)))) := by
  refine pr_of rfl rfl (ls := [some (.ref (α 40 0)), some (.int (J (s : Int))), some (.int (J (c : Int))), none, none, none]) rfl (Nat.le_of_ble_eq_true rfl) ?_
  show Ev g M_X12_lastMark 1 0 [some (.ref (α 40 0)), some (.int (J (s : Int))), some (.int (J (c : Int))), none, none, none] [] h 0 0 (PQ (some (.int (J (lastM O s c)))) h)
  have q0 := rm_nC hM
  have q1 := wo_nC hO
  have q2 := rm_nS hM
  have q3 := wo_nS hO
  have q5 := wo_tri hO s c hs hc
  have q6 := rm_tri hM s c hs hc
  refine tj_iconst 1 dX12_lastMark_0 rfl ?_
  refine ev_ist3 2 dX12_lastMark_1 rfl (by decide) rfl ?_
  refine tj_iconst 3 dX12_lastMark_2 rfl ?_
  refine ev_ist4 5 dX12_lastMark_3 rfl (by decide) rfl ?_
  have lp5 : ∀ (n5 : Nat) (k : Nat) (z3 : Int) (z4 : Int) (o5 : Option Value), 4 - k < n5 → ((k : Int) ≤ O 9 s c) → z3 = lmT O s c k → z4 = (k : Int) → Ev g M_X12_lastMark 1 5 [some (.ref (α 40 0)), some (.int (J (s : Int))), some (.int (J (c : Int))), some (.int (J z3)), some (.int (J z4)), o5] [] h 0 0 (PQ (some (.int (J (lastM O s c)))) h) := by
    intro n5
    induction n5 with
    | zero => intro k z3 z4 o5 hm; exact absurd hm (Nat.not_lt_zero _)
    | succ n5 ih5 =>
      intro k z3 z4 o5 hm5 hk e3 e4
      subst e3
      subst e4
      refine ev_ild4 7 dX12_lastMark_5 rfl ?_
      refine ev_ald0 8 dX12_lastMark_7 rfl ?_
      refine ev_getfield 11 14 15 fl_X12_40_14 (tr40 hT) rfl dX12_lastMark_8 rfl ?_
      refine ev_ild1 12 dX12_lastMark_11 rfl ?_
      refine ev_ild2 13 dX12_lastMark_12 rfl ?_
      refine tc_S2 16 dX12_lastMark_13 lks_X12_110 rfl (by first | decide | omega) (Nat.le_of_ble_eq_true rfl) c_X12_at ?_
      refine tv_iald 17 (tr55 hT) ((20 * s + c)) (by omega) (by omega) (by omega) dX12_lastMark_16 rfl ?_
      refine tj_icmp_ge 56 20 dX12_lastMark_17 (by decide) rfl (by first | exact TR.rng hT _ _ _ | exact R31_of _ | exact bi_R _ | (constructor <;> omega)) (by first | exact TR.rng hT _ _ _ | exact R31_of _ | exact bi_R _ | (constructor <;> omega)) (fun c17 => ?_) (fun c17 => ?_)
      · skip
        refine ev_ild3 57 dX12_lastMark_56 rfl ?_
        exact ev_ireturn (pq_i (by first | rfl | omega | exact bi_dt (by omega) | exact bi_df (by omega) | (rw [lastM, show k = (O 9 s c).toNat by omega]))) rfl dX12_lastMark_57
      · skip
        have q7 := rm_trd hM s c k hs hc (by omega)
        have q8 := lmT_R hO hs hc k hk
        refine ev_ald0 21 dX12_lastMark_20 rfl ?_
        refine ev_getfield 24 14 16 fl_X12_43_14 (tr40 hT) rfl dX12_lastMark_21 rfl ?_
        refine tj_iconst 25 dX12_lastMark_24 rfl ?_
        refine ev_ild1 26 dX12_lastMark_25 rfl ?_
        refine ev_ild2 27 dX12_lastMark_26 rfl ?_
        refine tc_S2 30 dX12_lastMark_27 lks_X12_110 rfl (by first | decide | omega) (Nat.le_of_ble_eq_true rfl) c_X12_at ?_
        refine tj_imul 31 dX12_lastMark_30 rfl ?_
        refine ev_ild4 33 dX12_lastMark_31 rfl ?_
        refine tj_iadd 34 dX12_lastMark_33 rfl ?_
        refine tv_iald 35 (tr56 hT) (((3 * (20 * s + c)) + k)) (by omega) (by omega) (by omega) dX12_lastMark_34 rfl ?_
        refine ev_ist5 37 dX12_lastMark_35 rfl (by decide) rfl ?_
        refine ev_ild5 39 dX12_lastMark_37 rfl ?_
        refine tj_iconst 40 dX12_lastMark_39 rfl ?_
        refine tj_icmp_ne 47 43 dX12_lastMark_40 (by decide) rfl (by first | exact TR.rng hT _ _ _ | exact R31_of _ | exact bi_R _ | (constructor <;> omega)) (by first | exact TR.rng hT _ _ _ | exact R31_of _ | exact bi_R _ | (constructor <;> omega)) (fun c40 => ?_) (fun c40 => ?_)
        · skip
          refine ev_ild5 49 dX12_lastMark_47 rfl ?_
          refine ev_ist3 50 dX12_lastMark_49 rfl (by decide) rfl ?_
          refine tj_inc4 53 dX12_lastMark_50 rfl (by decide) rfl ?_
          refine ev_goto 5 dX12_lastMark_53 (by decide) ?_
          exact ih5 (k + 1) _ _ _ (by omega) (by first | omega | assumption | omega) (by first | rfl | omega | (simp only [lmT]; split <;> omega)) (by first | rfl | omega | (simp only [lmT]; split <;> omega))
        · skip
          refine ev_ild3 44 dX12_lastMark_43 rfl ?_
          refine ev_goto 49 dX12_lastMark_44 (by decide) ?_
          refine ev_ist3 50 dX12_lastMark_49 rfl (by decide) rfl ?_
          refine tj_inc4 53 dX12_lastMark_50 rfl (by decide) rfl ?_
          refine ev_goto 5 dX12_lastMark_53 (by decide) ?_
          exact ih5 (k + 1) _ _ _ (by omega) (by first | omega | assumption | omega) (by first | rfl | omega | (simp only [lmT]; split <;> omega)) (by first | rfl | omega | (simp only [lmT]; split <;> omega))
  exact lp5 _ (0) _ _ _ (Nat.lt_succ_self _) (by first | omega | assumption | omega) (by first | rfl | omega | (simp only [lmT]; split <;> omega)) (by first | rfl | omega | (simp only [lmT]; split <;> omega))
theorem xs_twice (X : XM) (k i j : Nat) (a b : Int) : xs (xs X k i j a) k i j b = xs X k i j b := by
  funext k' i' j'
  rw [xs_all, xs_all, xs_all]
  split <;> rfl
theorem fk_p {O X : XM} (hO : WO O) (hM : RM O X) {f : Nat} (hf : (f : Int) < nF O) (h3 : O 16 f 9 = 3) : O 16 f 2 = X 59 0 f ∧ O 16 f 3 = X 60 0 f ∧ 0 ≤ X 59 0 f ∧ X 59 0 f < f ∧ 0 ≤ X 60 0 f ∧ X 60 0 f < f ∧ O 16 (X 59 0 f).toNat 0 < O 16 f 0 ∧ O 16 (X 60 0 f).toNat 0 < O 16 f 0 := by
  obtain ⟨a1, a2, a3, a4⟩ := rm_f3 hM f hf h3
  obtain ⟨b1, b2, b3, b4, b5, b6, b7, b8, b9, b10, b11⟩ := wo_f3 hO f hf h3
  rw [a1, a2]
  exact ⟨rfl, rfl, b1, b2, b3, b4, b9, b10⟩
theorem nx_1 {O : XM} {s f : Nat} {z : Int} (e : O 16 f 2 = z) (h0 : 0 ≤ z) (h : hol O s z.toNat = false) : z = (nx O s f : Int) := by
  unfold nx
  rw [e, h, if_neg (by decide)]
  omega
theorem nx_2 {O : XM} {s f : Nat} {z y : Int} (e : O 16 f 2 = z) (e2 : O 16 f 3 = y) (h0 : 0 ≤ y) (h : hol O s z.toNat = true) : y = (nx O s f : Int) := by
  unfold nx
  rw [e, h, if_pos rfl, e2]
  omega
theorem nx_no {O : XM} (hO : WO O) {s f : Nat} (hf : (f : Int) < nF O) (h3 : O 16 f 9 = 3) (hh : hol O s f = false) {z y : Int} (e : O 16 f 2 = z) (e2 : O 16 f 3 = y) (h1 : hol O s z.toNat = true) (h2 : hol O s y.toNat = true) : False := by
  have q := (nx_of hO hf h3 hh).2.1
  unfold nx at q
  rw [e, h1, if_pos rfl, e2, h2] at q
  cases q
set_option maxRecDepth 100000 in
set_option maxHeartbeats 4000000 in
theorem c_X12_reasonOf {g : Gt} {α : AL} {ν : Nat → Nat → Bool} {X : XM} {h : AH} (hT : TR g α ν X h) {O : XM} (hO : WO O) (hM : RM O X) {s : Nat} (hs : (s : Int) < nS O) {c : Nat} (hc : (c : Int) < nC O) (hq : O 12 c 5 ≠ -1) (hh : hol O s (O 12 c 5).toNat = false) : Mu g α ν M_X12_reasonOf 15 [.ref (α 40 0), .int (J (s : Int)), .int (J (c : Int))] h (some (.int (J ((rsnC O s c).2 : Int)))) (fun X' => X' = xs X 40 0 30 ((rsnC O s c).1 : Int)) := by
  refine mu_of rfl rfl (ls := [some (.ref (α 40 0)), some (.int (J (s : Int))), some (.int (J (c : Int))), none]) rfl (Nat.le_of_ble_eq_true rfl) ?_
  show Ev g M_X12_reasonOf 15 0 [some (.ref (α 40 0)), some (.int (J (s : Int))), some (.int (J (c : Int))), none] [] h 0 0 (UQ g α ν (some (.int (J ((rsnC O s c).2 : Int)))) (fun X' => X' = xs X 40 0 30 ((rsnC O s c).1 : Int)))
  have q0 := rm_nC hM
  have q1 := wo_nC hO
  have q2 := rm_nS hM
  have q3 := wo_nS hO
  have q4 := rm_req hM c hc
  have q5 := wo_req hO c hc
  have q6 := wo_nF hO
  obtain ⟨r, hr⟩ : ∃ r : Nat, O 12 c 5 = (r : Int) := ⟨(O 12 c 5).toNat, by omega⟩
  have q7 := wo_dep hO r (by omega)
  have hr2 : (O 12 c 5).toNat = r := by omega
  rw [hr2] at hh
  refine ev_ald0 1 dX12_reasonOf_0 rfl ?_
  refine ev_getfield 4 14 7 fl_X12_19_14 (tr40 hT) rfl dX12_reasonOf_1 rfl ?_
  refine ev_ild2 5 dX12_reasonOf_4 rfl ?_
  refine tv_iald 6 (tr47 hT) (c) (by omega) (by omega) (by omega) dX12_reasonOf_5 rfl ?_
  refine ev_ist3 7 dX12_reasonOf_6 rfl (by decide) rfl ?_
  refine ev_ald0 8 dX12_reasonOf_7 rfl ?_
  refine tj_iconst 9 dX12_reasonOf_8 rfl ?_
  refine tv_puti 12 30 .int fl_X12_230_14 fp_14_30 hT (tv40 hT) (fun _ => rfl) rfl (Nat.le_of_ble_eq_true rfl) rfl rfl (by first | exact TR.rng hT _ _ _ | exact R31_of _ | exact bi_R _ | (constructor <;> omega)) dX12_reasonOf_9 rfl (fun h hT => ?_)
  have lp12 : ∀ (n12 : Nat) (k n f : Nat) (z3 : Int)  (h2 : AH) (X2 : XM), n < n12 → (k + n = 6) → ((f : Int) < nF O) → (hol O s f = false) → (O 16 f 0 < n) → (rsn O s 6 r = (k + (rsn O s n f).1, (rsn O s n f).2)) → z3 = (f : Int) → TR g α ν X2 h2 → X2 = xs X 40 0 30 (k + 1) → Ev g M_X12_reasonOf 15 12 [some (.ref (α 40 0)), some (.int (J (s : Int))), some (.int (J (c : Int))), some (.int (J z3))] [] h2 0 0 (UQ g α ν (some (.int (J ((rsnC O s c).2 : Int)))) (fun X' => X' = xs X 40 0 30 ((rsnC O s c).1 : Int))) := by
    intro n12
    induction n12 with
    | zero => intro k n f z3 h2 X2 hm; exact absurd hm (Nat.not_lt_zero _)
    | succ n12 ih12 =>
      intro k n f z3 h2 X2 hm12 hk hf hh hd he e3 hT hI
      subst e3
      have qd := wo_dep hO f hf
      obtain ⟨m, rfl⟩ : ∃ m, n = m + 1 := ⟨n - 1, by omega⟩
      have hM0 := hM
      have hM : RM O X2 := by rw [hI]; exact rm_sc hM0 (by decide) _
      obtain ⟨w1, w2, w3⟩ := fk_in hO hM hf
      have e30 : X2 40 0 30 = k + 1 := by rw [hI, xs_at, if_pos rfl]
      refine ev_ald0 13 dX12_reasonOf_12 rfl ?_
      refine ev_getfield 16 14 18 fl_X12_46_14 (tr40 hT) rfl dX12_reasonOf_13 rfl ?_
      refine ev_ild3 17 dX12_reasonOf_16 rfl ?_
      refine tv_iald 18 (tr58 hT) (f) (by omega) (by omega) (by omega) dX12_reasonOf_17 rfl ?_
      refine tj_iconst 19 dX12_reasonOf_18 rfl ?_
      refine tj_iconst 20 dX12_reasonOf_19 rfl ?_
      refine tc_S3 23 dX12_reasonOf_20 lks_X12_96 rfl (by first | decide | omega) (Nat.le_of_ble_eq_true rfl) (c_X12_in (by first | exact TR.rng hT _ _ _ | exact R31_of _ | exact bi_R _ | (constructor <;> omega)) (by first | exact TR.rng hT _ _ _ | exact R31_of _ | exact bi_R _ | (constructor <;> omega)) (by first | exact TR.rng hT _ _ _ | exact R31_of _ | exact bi_R _ | (constructor <;> omega))) ?_
      refine tb_if_eq 92 26 dX12_reasonOf_23 (by decide) rfl (fun c23 => ?_) (fun c23 => ?_)
      · skip
        have w4 : O 16 f 9 ≠ 3 := fun z => absurd (w3.mpr z) (of_decide_eq_false c23)
        refine ev_ild3 93 dX12_reasonOf_92 rfl ?_
        exact ev_ireturn (uq_i (by first | rfl | omega | exact bi_dt (by omega) | exact bi_df (by omega) | (rw [rsnC, hr2, rsn_l he w4])) hT (by show X2 = _; rw [rsnC, hr2, rsn_l he w4]; exact hI)) rfl dX12_reasonOf_93
      · skip
        have w4 : O 16 f 9 = 3 := w3.mp (of_decide_eq_true c23)
        obtain ⟨w5, w6, w7, w8, w9, w10, w11, w12⟩ := fk_p hO hM hf w4
        refine ev_ald0 27 dX12_reasonOf_26 rfl ?_
        refine ev_ald0 28 dX12_reasonOf_27 rfl ?_
        refine ev_getfield 31 14 19 fl_X12_49_14 (tr40 hT) rfl dX12_reasonOf_28 rfl ?_
        refine ev_ild3 32 dX12_reasonOf_31 rfl ?_
        refine tv_iald 33 (tr59 hT) (f) (by omega) (by omega) (by omega) dX12_reasonOf_32 rfl ?_
        refine ev_ild1 34 dX12_reasonOf_33 rfl ?_
        refine tc_V2 37 14 dX12_reasonOf_34 lkv_X12_130 (tr40 hT) rfl rfl (by first | decide | omega) (Nat.le_of_ble_eq_true rfl) (c_X12_holdsNow_s hT hO hM hs (X2 59 0 f) (by omega) (by omega) 14 (by have := wo_dep hO (X2 59 0 f).toNat (by omega); omega)) ?_
        refine tb_if_ne 49 40 dX12_reasonOf_37 (by decide) rfl (fun c37 => ?_) (fun c37 => ?_)
        · skip
          refine ev_ald0 50 dX12_reasonOf_49 rfl ?_
          refine ev_ald0 51 dX12_reasonOf_50 rfl ?_
          refine ev_getfield 54 14 20 fl_X12_52_14 (tr40 hT) rfl dX12_reasonOf_51 rfl ?_
          refine ev_ild3 55 dX12_reasonOf_54 rfl ?_
          refine tv_iald 56 (tr60 hT) (f) (by omega) (by omega) (by omega) dX12_reasonOf_55 rfl ?_
          refine ev_ild1 57 dX12_reasonOf_56 rfl ?_
          refine tc_V2 60 14 dX12_reasonOf_57 lkv_X12_130 (tr40 hT) rfl rfl (by first | decide | omega) (Nat.le_of_ble_eq_true rfl) (c_X12_holdsNow_s hT hO hM hs (X2 60 0 f) (by omega) (by omega) 14 (by have := wo_dep hO (X2 60 0 f).toNat (by omega); omega)) ?_
          refine tb_if_ne 72 63 dX12_reasonOf_60 (by decide) rfl (fun c60 => ?_) (fun c60 => ?_)
          · exact False.elim (nx_no hO hf w4 hh w5 w6 c37 c60)
          · skip
            refine ev_ald0 64 dX12_reasonOf_63 rfl ?_
            refine ev_getfield 67 14 20 fl_X12_52_14 (tr40 hT) rfl dX12_reasonOf_64 rfl ?_
            refine ev_ild3 68 dX12_reasonOf_67 rfl ?_
            refine tv_iald 69 (tr60 hT) (f) (by omega) (by omega) (by omega) dX12_reasonOf_68 rfl ?_
            refine ev_goto 78 dX12_reasonOf_69 (by decide) ?_
            refine ev_ist3 79 dX12_reasonOf_78 rfl (by decide) rfl ?_
            refine ev_ald0 80 dX12_reasonOf_79 rfl ?_
            refine ev_dup 81 dX12_reasonOf_80 rfl rfl ?_
            refine ev_getfield 84 14 30 fl_X12_230_14 (tr40 hT) rfl dX12_reasonOf_81 rfl ?_
            refine tj_iconst 85 dX12_reasonOf_84 rfl ?_
            refine tj_iadd 86 dX12_reasonOf_85 rfl ?_
            refine tv_puti 89 30 .int fl_X12_230_14 fp_14_30 hT (tv40 hT) (fun _ => rfl) rfl (Nat.le_of_ble_eq_true rfl) rfl rfl (by first | exact TR.rng hT _ _ _ | exact R31_of _ | exact bi_R _ | (constructor <;> omega)) dX12_reasonOf_86 rfl (fun h hT => ?_)
            refine ev_goto 12 dX12_reasonOf_89 (by decide) ?_
            exact ih12 (k + 1) (m) (nx O s f) _ _ _ (by omega) (by first | omega | assumption | first | exact hh | rfl | (exact (nx_of hO hf w4 hh).1) | (exact (nx_of hO hf w4 hh).2.1) | (have := (nx_of hO hf w4 hh).2.2; omega) | exact rsn_k he w4 | (exact congrArg (fun z => (z, _)) (Nat.zero_add _).symm) | (simp; done)) (by first | omega | assumption | first | exact hh | rfl | (exact (nx_of hO hf w4 hh).1) | (exact (nx_of hO hf w4 hh).2.1) | (have := (nx_of hO hf w4 hh).2.2; omega) | exact rsn_k he w4 | (exact congrArg (fun z => (z, _)) (Nat.zero_add _).symm) | (simp; done)) (by first | omega | assumption | first | exact hh | rfl | (exact (nx_of hO hf w4 hh).1) | (exact (nx_of hO hf w4 hh).2.1) | (have := (nx_of hO hf w4 hh).2.2; omega) | exact rsn_k he w4 | (exact congrArg (fun z => (z, _)) (Nat.zero_add _).symm) | (simp; done)) (by first | omega | assumption | first | exact hh | rfl | (exact (nx_of hO hf w4 hh).1) | (exact (nx_of hO hf w4 hh).2.1) | (have := (nx_of hO hf w4 hh).2.2; omega) | exact rsn_k he w4 | (exact congrArg (fun z => (z, _)) (Nat.zero_add _).symm) | (simp; done)) (by first | omega | assumption | first | exact hh | rfl | (exact (nx_of hO hf w4 hh).1) | (exact (nx_of hO hf w4 hh).2.1) | (have := (nx_of hO hf w4 hh).2.2; omega) | exact rsn_k he w4 | (exact congrArg (fun z => (z, _)) (Nat.zero_add _).symm) | (simp; done)) (by first | rfl | omega | (first | exact nx_1 w5 (by omega) c37 | exact nx_2 w5 w6 (by omega) c37)) hT (by first | assumption | (first | rfl | (rw [e30, hI]; exact xs_twice _ _ _ _ _ _)))
        · skip
          refine ev_ald0 41 dX12_reasonOf_40 rfl ?_
          refine ev_getfield 44 14 19 fl_X12_49_14 (tr40 hT) rfl dX12_reasonOf_41 rfl ?_
          refine ev_ild3 45 dX12_reasonOf_44 rfl ?_
          refine tv_iald 46 (tr59 hT) (f) (by omega) (by omega) (by omega) dX12_reasonOf_45 rfl ?_
          refine ev_goto 78 dX12_reasonOf_46 (by decide) ?_
          refine ev_ist3 79 dX12_reasonOf_78 rfl (by decide) rfl ?_
          refine ev_ald0 80 dX12_reasonOf_79 rfl ?_
          refine ev_dup 81 dX12_reasonOf_80 rfl rfl ?_
          refine ev_getfield 84 14 30 fl_X12_230_14 (tr40 hT) rfl dX12_reasonOf_81 rfl ?_
          refine tj_iconst 85 dX12_reasonOf_84 rfl ?_
          refine tj_iadd 86 dX12_reasonOf_85 rfl ?_
          refine tv_puti 89 30 .int fl_X12_230_14 fp_14_30 hT (tv40 hT) (fun _ => rfl) rfl (Nat.le_of_ble_eq_true rfl) rfl rfl (by first | exact TR.rng hT _ _ _ | exact R31_of _ | exact bi_R _ | (constructor <;> omega)) dX12_reasonOf_86 rfl (fun h hT => ?_)
          refine ev_goto 12 dX12_reasonOf_89 (by decide) ?_
          exact ih12 (k + 1) (m) (nx O s f) _ _ _ (by omega) (by first | omega | assumption | first | exact hh | rfl | (exact (nx_of hO hf w4 hh).1) | (exact (nx_of hO hf w4 hh).2.1) | (have := (nx_of hO hf w4 hh).2.2; omega) | exact rsn_k he w4 | (exact congrArg (fun z => (z, _)) (Nat.zero_add _).symm) | (simp; done)) (by first | omega | assumption | first | exact hh | rfl | (exact (nx_of hO hf w4 hh).1) | (exact (nx_of hO hf w4 hh).2.1) | (have := (nx_of hO hf w4 hh).2.2; omega) | exact rsn_k he w4 | (exact congrArg (fun z => (z, _)) (Nat.zero_add _).symm) | (simp; done)) (by first | omega | assumption | first | exact hh | rfl | (exact (nx_of hO hf w4 hh).1) | (exact (nx_of hO hf w4 hh).2.1) | (have := (nx_of hO hf w4 hh).2.2; omega) | exact rsn_k he w4 | (exact congrArg (fun z => (z, _)) (Nat.zero_add _).symm) | (simp; done)) (by first | omega | assumption | first | exact hh | rfl | (exact (nx_of hO hf w4 hh).1) | (exact (nx_of hO hf w4 hh).2.1) | (have := (nx_of hO hf w4 hh).2.2; omega) | exact rsn_k he w4 | (exact congrArg (fun z => (z, _)) (Nat.zero_add _).symm) | (simp; done)) (by first | omega | assumption | first | exact hh | rfl | (exact (nx_of hO hf w4 hh).1) | (exact (nx_of hO hf w4 hh).2.1) | (have := (nx_of hO hf w4 hh).2.2; omega) | exact rsn_k he w4 | (exact congrArg (fun z => (z, _)) (Nat.zero_add _).symm) | (simp; done)) (by first | rfl | omega | (first | exact nx_1 w5 (by omega) c37 | exact nx_2 w5 w6 (by omega) c37)) hT (by first | assumption | (first | rfl | (rw [e30, hI]; exact xs_twice _ _ _ _ _ _)))
  exact lp12 _ (0) (6) (r) _ _ _ (Nat.lt_succ_self _) (by first | omega | assumption | first | exact hh | rfl | (exact (nx_of hO hf w4 hh).1) | (exact (nx_of hO hf w4 hh).2.1) | (have := (nx_of hO hf w4 hh).2.2; omega) | exact rsn_k he w4 | (exact congrArg (fun z => (z, _)) (Nat.zero_add _).symm) | (simp; done)) (by first | omega | assumption | first | exact hh | rfl | (exact (nx_of hO hf w4 hh).1) | (exact (nx_of hO hf w4 hh).2.1) | (have := (nx_of hO hf w4 hh).2.2; omega) | exact rsn_k he w4 | (exact congrArg (fun z => (z, _)) (Nat.zero_add _).symm) | (simp; done)) (by first | omega | assumption | first | exact hh | rfl | (exact (nx_of hO hf w4 hh).1) | (exact (nx_of hO hf w4 hh).2.1) | (have := (nx_of hO hf w4 hh).2.2; omega) | exact rsn_k he w4 | (exact congrArg (fun z => (z, _)) (Nat.zero_add _).symm) | (simp; done)) (by first | omega | assumption | first | exact hh | rfl | (exact (nx_of hO hf w4 hh).1) | (exact (nx_of hO hf w4 hh).2.1) | (have := (nx_of hO hf w4 hh).2.2; omega) | exact rsn_k he w4 | (exact congrArg (fun z => (z, _)) (Nat.zero_add _).symm) | (simp; done)) (by first | omega | assumption | first | exact hh | rfl | (exact (nx_of hO hf w4 hh).1) | (exact (nx_of hO hf w4 hh).2.1) | (have := (nx_of hO hf w4 hh).2.2; omega) | exact rsn_k he w4 | (exact congrArg (fun z => (z, _)) (Nat.zero_add _).symm) | (simp; done)) (by first | rfl | omega | (first | exact nx_1 w5 (by omega) c37 | exact nx_2 w5 w6 (by omega) c37)) hT (by first | assumption | (first | rfl | (rw [e30, hI]; exact xs_twice _ _ _ _ _ _)))
set_option maxRecDepth 100000 in
set_option maxHeartbeats 4000000 in
theorem c_X12_whyFault_b1 {g : Gt} {α : AL} {ν : Nat → Nat → Bool} {X : XM} {h : AH} (hT : TR g α ν X h) {O : XM} (hO : WO O) (hM : RM O X) {b : Int} (hb : R31 b) (hn : ¬ (0 ≤ b ∧ b < nS O)) {a1 : Int} (ha1 : R31 a1) : Pr g M_X12_whyFault 16 [.ref (α 40 0), .int (J b), .int (J a1)] h (some (.int (J 1))) := by
  refine pr_of rfl rfl (ls := [some (.ref (α 40 0)), some (.int (J b)), some (.int (J a1))]) rfl (Nat.le_of_ble_eq_true rfl) ?_
  show Ev g M_X12_whyFault 16 0 [some (.ref (α 40 0)), some (.int (J b)), some (.int (J a1))] [] h 0 0 (PQ (some (.int (J 1))) h)
  have q0 := rm_nC hM
  have q1 := wo_nC hO
  have q2 := rm_nS hM
  have q3 := wo_nS hO
  refine ev_ald0 1 dX12_whyFault_0 rfl ?_
  refine ev_ild1 2 dX12_whyFault_1 rfl ?_
  refine tc_V1 5 14 dX12_whyFault_2 lkv_X12_158 (tr40 hT) rfl rfl (by first | decide | omega) (Nat.le_of_ble_eq_true rfl) (isStudent_no hT hO hM hb hn) ?_
  refine tj_if_eq 16 8 dX12_whyFault_5 (by decide) rfl (by first | exact TR.rng hT _ _ _ | exact R31_of _ | exact bi_R _ | (constructor <;> omega)) (fun c5 => ?_) (fun c5 => ?_)
  · skip
    refine tj_iconst 17 dX12_whyFault_16 rfl ?_
    refine ev_goto 53 dX12_whyFault_17 (by decide) ?_
    exact ev_ireturn (pq_i (by first | rfl | omega | exact bi_dt (by omega) | exact bi_df (by omega) | (skip))) rfl dX12_whyFault_53
  · exact False.elim (by omega)
set_option maxRecDepth 100000 in
set_option maxHeartbeats 4000000 in
theorem c_X12_whyFault_b2 {g : Gt} {α : AL} {ν : Nat → Nat → Bool} {X : XM} {h : AH} (hT : TR g α ν X h) {O : XM} (hO : WO O) (hM : RM O X) {s : Nat} (hs : (s : Int) < nS O) {b : Int} (hb : R31 b) (hn : ¬ (0 ≤ b ∧ b < nC O)) : Pr g M_X12_whyFault 16 [.ref (α 40 0), .int (J (s : Int)), .int (J b)] h (some (.int (J 1))) := by
  refine pr_of rfl rfl (ls := [some (.ref (α 40 0)), some (.int (J (s : Int))), some (.int (J b))]) rfl (Nat.le_of_ble_eq_true rfl) ?_
  show Ev g M_X12_whyFault 16 0 [some (.ref (α 40 0)), some (.int (J (s : Int))), some (.int (J b))] [] h 0 0 (PQ (some (.int (J 1))) h)
  have q0 := rm_nC hM
  have q1 := wo_nC hO
  have q2 := rm_nS hM
  have q3 := wo_nS hO
  refine ev_ald0 1 dX12_whyFault_0 rfl ?_
  refine ev_ild1 2 dX12_whyFault_1 rfl ?_
  refine tc_V1 5 14 dX12_whyFault_2 lkv_X12_158 (tr40 hT) rfl rfl (by first | decide | omega) (Nat.le_of_ble_eq_true rfl) (isStudent_ok hT hO hM (by omega)) ?_
  refine tj_if_eq 16 8 dX12_whyFault_5 (by decide) rfl (by first | exact TR.rng hT _ _ _ | exact R31_of _ | exact bi_R _ | (constructor <;> omega)) (fun c5 => ?_) (fun c5 => ?_)
  · exact False.elim (by omega)
  · skip
    refine ev_ald0 9 dX12_whyFault_8 rfl ?_
    refine ev_ild2 10 dX12_whyFault_9 rfl ?_
    refine tc_V1 13 14 dX12_whyFault_10 lkv_X12_151 (tr40 hT) rfl rfl (by first | decide | omega) (Nat.le_of_ble_eq_true rfl) (isCourse_no hT hO hM hb hn) ?_
    refine tj_if_ne 20 16 dX12_whyFault_13 (by decide) rfl (by first | exact TR.rng hT _ _ _ | exact R31_of _ | exact bi_R _ | (constructor <;> omega)) (fun c13 => ?_) (fun c13 => ?_)
    · exact False.elim (by omega)
    · skip
      refine tj_iconst 17 dX12_whyFault_16 rfl ?_
      refine ev_goto 53 dX12_whyFault_17 (by decide) ?_
      exact ev_ireturn (pq_i (by first | rfl | omega | exact bi_dt (by omega) | exact bi_df (by omega) | (skip))) rfl dX12_whyFault_53
set_option maxRecDepth 100000 in
set_option maxHeartbeats 4000000 in
theorem c_X12_whyFault_x2 {g : Gt} {α : AL} {ν : Nat → Nat → Bool} {X : XM} {h : AH} (hT : TR g α ν X h) {O : XM} (hO : WO O) (hM : RM O X)  {s : Nat} (hs : (s : Int) < nS O) {c : Nat} (hc : (c : Int) < nC O) (hq : O 12 c 5 = -1) : Pr g M_X12_whyFault 16 [.ref (α 40 0), .int (J (s : Int)), .int (J (c : Int))] h (some (.int (J 2))) := by
  refine pr_of rfl rfl (ls := [some (.ref (α 40 0)), some (.int (J (s : Int))), some (.int (J (c : Int)))]) rfl (Nat.le_of_ble_eq_true rfl) ?_
  show Ev g M_X12_whyFault 16 0 [some (.ref (α 40 0)), some (.int (J (s : Int))), some (.int (J (c : Int)))] [] h 0 0 (PQ (some (.int (J 2))) h)
  have q0 := rm_nC hM
  have q1 := wo_nC hO
  have q2 := rm_nS hM
  have q3 := wo_nS hO
  have q4 := rm_req hM c hc
  have q5 := wo_req hO c hc
  have q6 := wo_nF hO
  refine ev_ald0 1 dX12_whyFault_0 rfl ?_
  refine ev_ild1 2 dX12_whyFault_1 rfl ?_
  refine tc_V1 5 14 dX12_whyFault_2 lkv_X12_158 (tr40 hT) rfl rfl (by first | decide | omega) (Nat.le_of_ble_eq_true rfl) (isStudent_ok hT hO hM (by omega)) ?_
  refine tj_if_eq 16 8 dX12_whyFault_5 (by decide) rfl (by first | exact TR.rng hT _ _ _ | exact R31_of _ | exact bi_R _ | (constructor <;> omega)) (fun c5 => ?_) (fun c5 => ?_)
  · exact False.elim (by omega)
  · skip
    refine ev_ald0 9 dX12_whyFault_8 rfl ?_
    refine ev_ild2 10 dX12_whyFault_9 rfl ?_
    refine tc_V1 13 14 dX12_whyFault_10 lkv_X12_151 (tr40 hT) rfl rfl (by first | decide | omega) (Nat.le_of_ble_eq_true rfl) (isCourse_ok hT hO hM (by omega)) ?_
    refine tj_if_ne 20 16 dX12_whyFault_13 (by decide) rfl (by first | exact TR.rng hT _ _ _ | exact R31_of _ | exact bi_R _ | (constructor <;> omega)) (fun c13 => ?_) (fun c13 => ?_)
    · skip
      refine ev_ald0 21 dX12_whyFault_20 rfl ?_
      refine ev_getfield 24 14 7 fl_X12_19_14 (tr40 hT) rfl dX12_whyFault_21 rfl ?_
      refine ev_ild2 25 dX12_whyFault_24 rfl ?_
      refine tv_iald 26 (tr47 hT) (c) (by omega) (by omega) (by omega) dX12_whyFault_25 rfl ?_
      refine tj_iconst 27 dX12_whyFault_26 rfl ?_
      refine tj_icmp_ne 34 30 dX12_whyFault_27 (by decide) rfl (by first | exact TR.rng hT _ _ _ | exact R31_of _ | exact bi_R _ | (constructor <;> omega)) (by first | exact TR.rng hT _ _ _ | exact R31_of _ | exact bi_R _ | (constructor <;> omega)) (fun c27 => ?_) (fun c27 => ?_)
      · exact False.elim (by omega)
      · skip
        refine tj_iconst 31 dX12_whyFault_30 rfl ?_
        refine ev_goto 53 dX12_whyFault_31 (by decide) ?_
        exact ev_ireturn (pq_i (by first | rfl | omega | exact bi_dt (by omega) | exact bi_df (by omega) | (skip))) rfl dX12_whyFault_53
    · exact False.elim (by omega)
set_option maxRecDepth 100000 in
set_option maxHeartbeats 4000000 in
theorem c_X12_whyFault_x3 {g : Gt} {α : AL} {ν : Nat → Nat → Bool} {X : XM} {h : AH} (hT : TR g α ν X h) {O : XM} (hO : WO O) (hM : RM O X)  {s : Nat} (hs : (s : Int) < nS O) {c : Nat} (hc : (c : Int) < nC O) (hq : O 12 c 5 ≠ -1) (hh : hol O s (O 12 c 5).toNat = true) : Pr g M_X12_whyFault 16 [.ref (α 40 0), .int (J (s : Int)), .int (J (c : Int))] h (some (.int (J 3))) := by
  refine pr_of rfl rfl (ls := [some (.ref (α 40 0)), some (.int (J (s : Int))), some (.int (J (c : Int)))]) rfl (Nat.le_of_ble_eq_true rfl) ?_
  show Ev g M_X12_whyFault 16 0 [some (.ref (α 40 0)), some (.int (J (s : Int))), some (.int (J (c : Int)))] [] h 0 0 (PQ (some (.int (J 3))) h)
  have q0 := rm_nC hM
  have q1 := wo_nC hO
  have q2 := rm_nS hM
  have q3 := wo_nS hO
  have q4 := rm_req hM c hc
  have q5 := wo_req hO c hc
  have q6 := wo_nF hO
  refine ev_ald0 1 dX12_whyFault_0 rfl ?_
  refine ev_ild1 2 dX12_whyFault_1 rfl ?_
  refine tc_V1 5 14 dX12_whyFault_2 lkv_X12_158 (tr40 hT) rfl rfl (by first | decide | omega) (Nat.le_of_ble_eq_true rfl) (isStudent_ok hT hO hM (by omega)) ?_
  refine tj_if_eq 16 8 dX12_whyFault_5 (by decide) rfl (by first | exact TR.rng hT _ _ _ | exact R31_of _ | exact bi_R _ | (constructor <;> omega)) (fun c5 => ?_) (fun c5 => ?_)
  · exact False.elim (by omega)
  · skip
    refine ev_ald0 9 dX12_whyFault_8 rfl ?_
    refine ev_ild2 10 dX12_whyFault_9 rfl ?_
    refine tc_V1 13 14 dX12_whyFault_10 lkv_X12_151 (tr40 hT) rfl rfl (by first | decide | omega) (Nat.le_of_ble_eq_true rfl) (isCourse_ok hT hO hM (by omega)) ?_
    refine tj_if_ne 20 16 dX12_whyFault_13 (by decide) rfl (by first | exact TR.rng hT _ _ _ | exact R31_of _ | exact bi_R _ | (constructor <;> omega)) (fun c13 => ?_) (fun c13 => ?_)
    · skip
      refine ev_ald0 21 dX12_whyFault_20 rfl ?_
      refine ev_getfield 24 14 7 fl_X12_19_14 (tr40 hT) rfl dX12_whyFault_21 rfl ?_
      refine ev_ild2 25 dX12_whyFault_24 rfl ?_
      refine tv_iald 26 (tr47 hT) (c) (by omega) (by omega) (by omega) dX12_whyFault_25 rfl ?_
      refine tj_iconst 27 dX12_whyFault_26 rfl ?_
      refine tj_icmp_ne 34 30 dX12_whyFault_27 (by decide) rfl (by first | exact TR.rng hT _ _ _ | exact R31_of _ | exact bi_R _ | (constructor <;> omega)) (by first | exact TR.rng hT _ _ _ | exact R31_of _ | exact bi_R _ | (constructor <;> omega)) (fun c27 => ?_) (fun c27 => ?_)
      · skip
        refine ev_ald0 35 dX12_whyFault_34 rfl ?_
        refine ev_ald0 36 dX12_whyFault_35 rfl ?_
        refine ev_getfield 39 14 7 fl_X12_19_14 (tr40 hT) rfl dX12_whyFault_36 rfl ?_
        refine ev_ild2 40 dX12_whyFault_39 rfl ?_
        refine tv_iald 41 (tr47 hT) (c) (by omega) (by omega) (by omega) dX12_whyFault_40 rfl ?_
        refine ev_ild1 42 dX12_whyFault_41 rfl ?_
        refine tc_V2 45 14 dX12_whyFault_42 lkv_X12_130 (tr40 hT) rfl rfl (by first | decide | omega) (Nat.le_of_ble_eq_true rfl) (c_X12_holdsNow_s hT hO hM hs (X 47 0 c) (by omega) (by omega) 14 (by have := wo_dep hO (X 47 0 c).toNat (by omega); omega)) ?_
        refine tb_if_eq 52 48 dX12_whyFault_45 (by decide) rfl (fun c45 => ?_) (fun c45 => ?_)
        · exact False.elim (by rw [q4] at c45; exact Bool.false_ne_true (c45.symm.trans hh))
        · skip
          refine tj_iconst 49 dX12_whyFault_48 rfl ?_
          refine ev_goto 53 dX12_whyFault_49 (by decide) ?_
          exact ev_ireturn (pq_i (by first | rfl | omega | exact bi_dt (by omega) | exact bi_df (by omega) | (skip))) rfl dX12_whyFault_53
      · exact False.elim (by omega)
    · exact False.elim (by omega)
set_option maxRecDepth 100000 in
set_option maxHeartbeats 4000000 in
theorem c_X12_whyFault_ok {g : Gt} {α : AL} {ν : Nat → Nat → Bool} {X : XM} {h : AH} (hT : TR g α ν X h) {O : XM} (hO : WO O) (hM : RM O X)  {s : Nat} (hs : (s : Int) < nS O) {c : Nat} (hc : (c : Int) < nC O) (hq : O 12 c 5 ≠ -1) (hh : hol O s (O 12 c 5).toNat = false) : Pr g M_X12_whyFault 16 [.ref (α 40 0), .int (J (s : Int)), .int (J (c : Int))] h (some (.int (J 0))) := by
  refine pr_of rfl rfl (ls := [some (.ref (α 40 0)), some (.int (J (s : Int))), some (.int (J (c : Int)))]) rfl (Nat.le_of_ble_eq_true rfl) ?_
  show Ev g M_X12_whyFault 16 0 [some (.ref (α 40 0)), some (.int (J (s : Int))), some (.int (J (c : Int)))] [] h 0 0 (PQ (some (.int (J 0))) h)
  have q0 := rm_nC hM
  have q1 := wo_nC hO
  have q2 := rm_nS hM
  have q3 := wo_nS hO
  have q4 := rm_req hM c hc
  have q5 := wo_req hO c hc
  have q6 := wo_nF hO
  refine ev_ald0 1 dX12_whyFault_0 rfl ?_
  refine ev_ild1 2 dX12_whyFault_1 rfl ?_
  refine tc_V1 5 14 dX12_whyFault_2 lkv_X12_158 (tr40 hT) rfl rfl (by first | decide | omega) (Nat.le_of_ble_eq_true rfl) (isStudent_ok hT hO hM (by omega)) ?_
  refine tj_if_eq 16 8 dX12_whyFault_5 (by decide) rfl (by first | exact TR.rng hT _ _ _ | exact R31_of _ | exact bi_R _ | (constructor <;> omega)) (fun c5 => ?_) (fun c5 => ?_)
  · exact False.elim (by omega)
  · skip
    refine ev_ald0 9 dX12_whyFault_8 rfl ?_
    refine ev_ild2 10 dX12_whyFault_9 rfl ?_
    refine tc_V1 13 14 dX12_whyFault_10 lkv_X12_151 (tr40 hT) rfl rfl (by first | decide | omega) (Nat.le_of_ble_eq_true rfl) (isCourse_ok hT hO hM (by omega)) ?_
    refine tj_if_ne 20 16 dX12_whyFault_13 (by decide) rfl (by first | exact TR.rng hT _ _ _ | exact R31_of _ | exact bi_R _ | (constructor <;> omega)) (fun c13 => ?_) (fun c13 => ?_)
    · skip
      refine ev_ald0 21 dX12_whyFault_20 rfl ?_
      refine ev_getfield 24 14 7 fl_X12_19_14 (tr40 hT) rfl dX12_whyFault_21 rfl ?_
      refine ev_ild2 25 dX12_whyFault_24 rfl ?_
      refine tv_iald 26 (tr47 hT) (c) (by omega) (by omega) (by omega) dX12_whyFault_25 rfl ?_
      refine tj_iconst 27 dX12_whyFault_26 rfl ?_
      refine tj_icmp_ne 34 30 dX12_whyFault_27 (by decide) rfl (by first | exact TR.rng hT _ _ _ | exact R31_of _ | exact bi_R _ | (constructor <;> omega)) (by first | exact TR.rng hT _ _ _ | exact R31_of _ | exact bi_R _ | (constructor <;> omega)) (fun c27 => ?_) (fun c27 => ?_)
      · skip
        refine ev_ald0 35 dX12_whyFault_34 rfl ?_
        refine ev_ald0 36 dX12_whyFault_35 rfl ?_
        refine ev_getfield 39 14 7 fl_X12_19_14 (tr40 hT) rfl dX12_whyFault_36 rfl ?_
        refine ev_ild2 40 dX12_whyFault_39 rfl ?_
        refine tv_iald 41 (tr47 hT) (c) (by omega) (by omega) (by omega) dX12_whyFault_40 rfl ?_
        refine ev_ild1 42 dX12_whyFault_41 rfl ?_
        refine tc_V2 45 14 dX12_whyFault_42 lkv_X12_130 (tr40 hT) rfl rfl (by first | decide | omega) (Nat.le_of_ble_eq_true rfl) (c_X12_holdsNow_s hT hO hM hs (X 47 0 c) (by omega) (by omega) 14 (by have := wo_dep hO (X 47 0 c).toNat (by omega); omega)) ?_
        refine tb_if_eq 52 48 dX12_whyFault_45 (by decide) rfl (fun c45 => ?_) (fun c45 => ?_)
        · skip
          refine tj_iconst 53 dX12_whyFault_52 rfl ?_
          exact ev_ireturn (pq_i (by first | rfl | omega | exact bi_dt (by omega) | exact bi_df (by omega) | (skip))) rfl dX12_whyFault_53
        · exact False.elim (by rw [q4] at c45; exact Bool.false_ne_true (hh.symm.trans c45))
      · exact False.elim (by omega)
    · exact False.elim (by omega)
set_option maxRecDepth 100000 in
set_option maxHeartbeats 4000000 in
theorem c_X12_whyNot_b1 {g : Gt} {α : AL} {ν : Nat → Nat → Bool} {X : XM} {h : AH} (hT : TR g α ν X h) {O : XM} (hO : WO O) (hM : RM O X) {b : Int} (hb : R31 b) (hn : ¬ (0 ≤ b ∧ b < nS O)) {a1 : Int} (ha1 : R31 a1) : Mu g α ν M_X12_whyNot 27 [.ref (α 40 0), .int (J b), .int (J a1)] h (some (.int (J (0)))) (fun X' => X' = xs X 40 0 0 1) := by
  refine mu_of rfl rfl (ls := [some (.ref (α 40 0)), some (.int (J b)), some (.int (J a1))]) rfl (Nat.le_of_ble_eq_true rfl) ?_
  show Ev g M_X12_whyNot 27 0 [some (.ref (α 40 0)), some (.int (J b)), some (.int (J a1))] [] h 0 0 (UQ g α ν (some (.int (J (0)))) (fun X' => X' = xs X 40 0 0 1))
  have q0 := rm_nC hM
  have q1 := wo_nC hO
  have q2 := rm_nS hM
  have q3 := wo_nS hO
  refine ev_ald0 1 dX12_whyNot_0 rfl ?_
  refine ev_ald0 2 dX12_whyNot_1 rfl ?_
  refine ev_ild1 3 dX12_whyNot_2 rfl ?_
  refine ev_ild2 4 dX12_whyNot_3 rfl ?_
  refine tc_V2 7 14 dX12_whyNot_4 lkv_X12_233 (tr40 hT) rfl rfl (by first | decide | omega) (Nat.le_of_ble_eq_true rfl) (c_X12_whyFault_b1 hT hO hM hb hn ha1) ?_
  refine tm_V1 10 14 dX12_whyNot_7 lkv_X12_144 (tr40 hT) rfl rfl (by first | decide | omega) (Nat.le_of_ble_eq_true rfl) (goes_n hT (by omega)) (fun h X1 hT hP7 => ?_)
  have hM1 := hM
  have hM : RM O X1 := by rw [hP7]; exact rm_th hM1 _
  have q0 := rm_nC hM
  have q2 := rm_nS hM
  refine tj_if_eq 22 13 dX12_whyNot_10 (by decide) rfl (by first | exact TR.rng hT _ _ _ | exact R31_of _ | exact bi_R _ | (constructor <;> omega)) (fun c10 => ?_) (fun c10 => ?_)
  · skip
    refine tj_iconst 23 dX12_whyNot_22 rfl ?_
    exact ev_ireturn (uq_i (by first | rfl | omega | exact bi_dt (by omega) | exact bi_df (by omega) | (skip)) hT (by assumption)) rfl dX12_whyNot_23
  · exact False.elim (by omega)
set_option maxRecDepth 100000 in
set_option maxHeartbeats 4000000 in
theorem c_X12_whyNot_b2 {g : Gt} {α : AL} {ν : Nat → Nat → Bool} {X : XM} {h : AH} (hT : TR g α ν X h) {O : XM} (hO : WO O) (hM : RM O X) {s : Nat} (hs : (s : Int) < nS O) {b : Int} (hb : R31 b) (hn : ¬ (0 ≤ b ∧ b < nC O)) : Mu g α ν M_X12_whyNot 27 [.ref (α 40 0), .int (J (s : Int)), .int (J b)] h (some (.int (J (0)))) (fun X' => X' = xs X 40 0 0 1) := by
  refine mu_of rfl rfl (ls := [some (.ref (α 40 0)), some (.int (J (s : Int))), some (.int (J b))]) rfl (Nat.le_of_ble_eq_true rfl) ?_
  show Ev g M_X12_whyNot 27 0 [some (.ref (α 40 0)), some (.int (J (s : Int))), some (.int (J b))] [] h 0 0 (UQ g α ν (some (.int (J (0)))) (fun X' => X' = xs X 40 0 0 1))
  have q0 := rm_nC hM
  have q1 := wo_nC hO
  have q2 := rm_nS hM
  have q3 := wo_nS hO
  refine ev_ald0 1 dX12_whyNot_0 rfl ?_
  refine ev_ald0 2 dX12_whyNot_1 rfl ?_
  refine ev_ild1 3 dX12_whyNot_2 rfl ?_
  refine ev_ild2 4 dX12_whyNot_3 rfl ?_
  refine tc_V2 7 14 dX12_whyNot_4 lkv_X12_233 (tr40 hT) rfl rfl (by first | decide | omega) (Nat.le_of_ble_eq_true rfl) (c_X12_whyFault_b2 hT hO hM hs hb hn) ?_
  refine tm_V1 10 14 dX12_whyNot_7 lkv_X12_144 (tr40 hT) rfl rfl (by first | decide | omega) (Nat.le_of_ble_eq_true rfl) (goes_n hT (by omega)) (fun h X1 hT hP7 => ?_)
  have hM1 := hM
  have hM : RM O X1 := by rw [hP7]; exact rm_th hM1 _
  have q0 := rm_nC hM
  have q2 := rm_nS hM
  refine tj_if_eq 22 13 dX12_whyNot_10 (by decide) rfl (by first | exact TR.rng hT _ _ _ | exact R31_of _ | exact bi_R _ | (constructor <;> omega)) (fun c10 => ?_) (fun c10 => ?_)
  · skip
    refine tj_iconst 23 dX12_whyNot_22 rfl ?_
    exact ev_ireturn (uq_i (by first | rfl | omega | exact bi_dt (by omega) | exact bi_df (by omega) | (skip)) hT (by assumption)) rfl dX12_whyNot_23
  · exact False.elim (by omega)
set_option maxRecDepth 100000 in
set_option maxHeartbeats 4000000 in
theorem c_X12_whyNot_x2 {g : Gt} {α : AL} {ν : Nat → Nat → Bool} {X : XM} {h : AH} (hT : TR g α ν X h) {O : XM} (hO : WO O) (hM : RM O X)  {s : Nat} (hs : (s : Int) < nS O) {c : Nat} (hc : (c : Int) < nC O) (hq : O 12 c 5 = -1) : Mu g α ν M_X12_whyNot 27 [.ref (α 40 0), .int (J (s : Int)), .int (J (c : Int))] h (some (.int (J (0)))) (fun X' => X' = xs X 40 0 0 2) := by
  refine mu_of rfl rfl (ls := [some (.ref (α 40 0)), some (.int (J (s : Int))), some (.int (J (c : Int)))]) rfl (Nat.le_of_ble_eq_true rfl) ?_
  show Ev g M_X12_whyNot 27 0 [some (.ref (α 40 0)), some (.int (J (s : Int))), some (.int (J (c : Int)))] [] h 0 0 (UQ g α ν (some (.int (J (0)))) (fun X' => X' = xs X 40 0 0 2))
  have q0 := rm_nC hM
  have q1 := wo_nC hO
  have q2 := rm_nS hM
  have q3 := wo_nS hO
  refine ev_ald0 1 dX12_whyNot_0 rfl ?_
  refine ev_ald0 2 dX12_whyNot_1 rfl ?_
  refine ev_ild1 3 dX12_whyNot_2 rfl ?_
  refine ev_ild2 4 dX12_whyNot_3 rfl ?_
  refine tc_V2 7 14 dX12_whyNot_4 lkv_X12_233 (tr40 hT) rfl rfl (by first | decide | omega) (Nat.le_of_ble_eq_true rfl) (c_X12_whyFault_x2 hT hO hM hs hc hq) ?_
  refine tm_V1 10 14 dX12_whyNot_7 lkv_X12_144 (tr40 hT) rfl rfl (by first | decide | omega) (Nat.le_of_ble_eq_true rfl) (goes_n hT (by omega)) (fun h X1 hT hP7 => ?_)
  have hM1 := hM
  have hM : RM O X1 := by rw [hP7]; exact rm_th hM1 _
  have q0 := rm_nC hM
  have q2 := rm_nS hM
  refine tj_if_eq 22 13 dX12_whyNot_10 (by decide) rfl (by first | exact TR.rng hT _ _ _ | exact R31_of _ | exact bi_R _ | (constructor <;> omega)) (fun c10 => ?_) (fun c10 => ?_)
  · skip
    refine tj_iconst 23 dX12_whyNot_22 rfl ?_
    exact ev_ireturn (uq_i (by first | rfl | omega | exact bi_dt (by omega) | exact bi_df (by omega) | (skip)) hT (by assumption)) rfl dX12_whyNot_23
  · exact False.elim (by omega)
set_option maxRecDepth 100000 in
set_option maxHeartbeats 4000000 in
theorem c_X12_whyNot_x3 {g : Gt} {α : AL} {ν : Nat → Nat → Bool} {X : XM} {h : AH} (hT : TR g α ν X h) {O : XM} (hO : WO O) (hM : RM O X)  {s : Nat} (hs : (s : Int) < nS O) {c : Nat} (hc : (c : Int) < nC O) (hq : O 12 c 5 ≠ -1) (hh : hol O s (O 12 c 5).toNat = true) : Mu g α ν M_X12_whyNot 27 [.ref (α 40 0), .int (J (s : Int)), .int (J (c : Int))] h (some (.int (J (0)))) (fun X' => X' = xs X 40 0 0 3) := by
  refine mu_of rfl rfl (ls := [some (.ref (α 40 0)), some (.int (J (s : Int))), some (.int (J (c : Int)))]) rfl (Nat.le_of_ble_eq_true rfl) ?_
  show Ev g M_X12_whyNot 27 0 [some (.ref (α 40 0)), some (.int (J (s : Int))), some (.int (J (c : Int)))] [] h 0 0 (UQ g α ν (some (.int (J (0)))) (fun X' => X' = xs X 40 0 0 3))
  have q0 := rm_nC hM
  have q1 := wo_nC hO
  have q2 := rm_nS hM
  have q3 := wo_nS hO
  refine ev_ald0 1 dX12_whyNot_0 rfl ?_
  refine ev_ald0 2 dX12_whyNot_1 rfl ?_
  refine ev_ild1 3 dX12_whyNot_2 rfl ?_
  refine ev_ild2 4 dX12_whyNot_3 rfl ?_
  refine tc_V2 7 14 dX12_whyNot_4 lkv_X12_233 (tr40 hT) rfl rfl (by first | decide | omega) (Nat.le_of_ble_eq_true rfl) (c_X12_whyFault_x3 hT hO hM hs hc hq hh) ?_
  refine tm_V1 10 14 dX12_whyNot_7 lkv_X12_144 (tr40 hT) rfl rfl (by first | decide | omega) (Nat.le_of_ble_eq_true rfl) (goes_n hT (by omega)) (fun h X1 hT hP7 => ?_)
  have hM1 := hM
  have hM : RM O X1 := by rw [hP7]; exact rm_th hM1 _
  have q0 := rm_nC hM
  have q2 := rm_nS hM
  refine tj_if_eq 22 13 dX12_whyNot_10 (by decide) rfl (by first | exact TR.rng hT _ _ _ | exact R31_of _ | exact bi_R _ | (constructor <;> omega)) (fun c10 => ?_) (fun c10 => ?_)
  · skip
    refine tj_iconst 23 dX12_whyNot_22 rfl ?_
    exact ev_ireturn (uq_i (by first | rfl | omega | exact bi_dt (by omega) | exact bi_df (by omega) | (skip)) hT (by assumption)) rfl dX12_whyNot_23
  · exact False.elim (by omega)
set_option maxRecDepth 100000 in
set_option maxHeartbeats 4000000 in
theorem c_X12_whyNot_ok {g : Gt} {α : AL} {ν : Nat → Nat → Bool} {X : XM} {h : AH} (hT : TR g α ν X h) {O : XM} (hO : WO O) (hM : RM O X)  {s : Nat} (hs : (s : Int) < nS O) {c : Nat} (hc : (c : Int) < nC O) (hq : O 12 c 5 ≠ -1) (hh : hol O s (O 12 c 5).toNat = false) : Mu g α ν M_X12_whyNot 27 [.ref (α 40 0), .int (J (s : Int)), .int (J (c : Int))] h (some (.int (J (((rsnC O s c).2 : Int))))) (fun X' => X' = xs (xs X 40 0 0 0) 40 0 30 ((rsnC O s c).1 : Int)) := by
  refine mu_of rfl rfl (ls := [some (.ref (α 40 0)), some (.int (J (s : Int))), some (.int (J (c : Int)))]) rfl (Nat.le_of_ble_eq_true rfl) ?_
  show Ev g M_X12_whyNot 27 0 [some (.ref (α 40 0)), some (.int (J (s : Int))), some (.int (J (c : Int)))] [] h 0 0 (UQ g α ν (some (.int (J (((rsnC O s c).2 : Int))))) (fun X' => X' = xs (xs X 40 0 0 0) 40 0 30 ((rsnC O s c).1 : Int)))
  have q0 := rm_nC hM
  have q1 := wo_nC hO
  have q2 := rm_nS hM
  have q3 := wo_nS hO
  refine ev_ald0 1 dX12_whyNot_0 rfl ?_
  refine ev_ald0 2 dX12_whyNot_1 rfl ?_
  refine ev_ild1 3 dX12_whyNot_2 rfl ?_
  refine ev_ild2 4 dX12_whyNot_3 rfl ?_
  refine tc_V2 7 14 dX12_whyNot_4 lkv_X12_233 (tr40 hT) rfl rfl (by first | decide | omega) (Nat.le_of_ble_eq_true rfl) (c_X12_whyFault_ok hT hO hM hs hc hq hh) ?_
  refine tm_V1 10 14 dX12_whyNot_7 lkv_X12_144 (tr40 hT) rfl rfl (by first | decide | omega) (Nat.le_of_ble_eq_true rfl) (goes_0 hT) (fun h X1 hT hP7 => ?_)
  have hM1 := hM
  have hM : RM O X1 := by rw [hP7]; exact rm_th hM1 _
  have q0 := rm_nC hM
  have q2 := rm_nS hM
  refine tj_if_eq 22 13 dX12_whyNot_10 (by decide) rfl (by first | exact TR.rng hT _ _ _ | exact R31_of _ | exact bi_R _ | (constructor <;> omega)) (fun c10 => ?_) (fun c10 => ?_)
  · exact False.elim (by omega)
  · skip
    refine ev_ald0 14 dX12_whyNot_13 rfl ?_
    refine ev_ild1 15 dX12_whyNot_14 rfl ?_
    refine ev_ild2 16 dX12_whyNot_15 rfl ?_
    refine tm_V2 19 14 dX12_whyNot_16 lkv_X12_236 (tr40 hT) rfl rfl (by first | decide | omega) (Nat.le_of_ble_eq_true rfl) (c_X12_reasonOf hT hO hM hs hc hq hh) (fun h X1 hT hP16 => ?_)
    refine ev_goto 23 dX12_whyNot_19 (by decide) ?_
    exact ev_ireturn (uq_i (by first | rfl | omega | exact bi_dt (by omega) | exact bi_df (by omega) | (rw [hP16, xs_at, if_pos rfl])) hT (by show _ = _; rw [hP16, hP7])) rfl dX12_whyNot_23
set_option maxRecDepth 100000 in
set_option maxHeartbeats 4000000 in
theorem c_X12_whyLong_b1 {g : Gt} {α : AL} {ν : Nat → Nat → Bool} {X : XM} {h : AH} (hT : TR g α ν X h) {O : XM} (hO : WO O) (hM : RM O X) {b : Int} (hb : R31 b) (hn : ¬ (0 ≤ b ∧ b < nS O)) {a1 : Int} (ha1 : R31 a1) : Mu g α ν M_X12_whyLong 27 [.ref (α 40 0), .int (J b), .int (J a1)] h (some (.int (J (0)))) (fun X' => X' = xs X 40 0 0 1) := by
  refine mu_of rfl rfl (ls := [some (.ref (α 40 0)), some (.int (J b)), some (.int (J a1)), none]) rfl (Nat.le_of_ble_eq_true rfl) ?_
  show Ev g M_X12_whyLong 27 0 [some (.ref (α 40 0)), some (.int (J b)), some (.int (J a1)), none] [] h 0 0 (UQ g α ν (some (.int (J (0)))) (fun X' => X' = xs X 40 0 0 1))
  have q0 := rm_nC hM
  have q1 := wo_nC hO
  have q2 := rm_nS hM
  have q3 := wo_nS hO
  refine ev_ald0 1 dX12_whyLong_0 rfl ?_
  refine ev_ald0 2 dX12_whyLong_1 rfl ?_
  refine ev_ild1 3 dX12_whyLong_2 rfl ?_
  refine ev_ild2 4 dX12_whyLong_3 rfl ?_
  refine tc_V2 7 14 dX12_whyLong_4 lkv_X12_233 (tr40 hT) rfl rfl (by first | decide | omega) (Nat.le_of_ble_eq_true rfl) (c_X12_whyFault_b1 hT hO hM hb hn ha1) ?_
  refine tm_V1 10 14 dX12_whyLong_7 lkv_X12_144 (tr40 hT) rfl rfl (by first | decide | omega) (Nat.le_of_ble_eq_true rfl) (goes_n hT (by omega)) (fun h X1 hT hP7 => ?_)
  have hM1 := hM
  have hM : RM O X1 := by rw [hP7]; exact rm_th hM1 _
  have q0 := rm_nC hM
  have q2 := rm_nS hM
  refine tj_if_ne 15 13 dX12_whyLong_10 (by decide) rfl (by first | exact TR.rng hT _ _ _ | exact R31_of _ | exact bi_R _ | (constructor <;> omega)) (fun c10 => ?_) (fun c10 => ?_)
  · exact False.elim (by omega)
  · skip
    refine tj_iconst 14 dX12_whyLong_13 rfl ?_
    exact ev_ireturn (uq_i (by first | rfl | omega | exact bi_dt (by omega) | exact bi_df (by omega) | (skip)) hT (by assumption)) rfl dX12_whyLong_14
set_option maxRecDepth 100000 in
set_option maxHeartbeats 4000000 in
theorem c_X12_whyLong_b2 {g : Gt} {α : AL} {ν : Nat → Nat → Bool} {X : XM} {h : AH} (hT : TR g α ν X h) {O : XM} (hO : WO O) (hM : RM O X) {s : Nat} (hs : (s : Int) < nS O) {b : Int} (hb : R31 b) (hn : ¬ (0 ≤ b ∧ b < nC O)) : Mu g α ν M_X12_whyLong 27 [.ref (α 40 0), .int (J (s : Int)), .int (J b)] h (some (.int (J (0)))) (fun X' => X' = xs X 40 0 0 1) := by
  refine mu_of rfl rfl (ls := [some (.ref (α 40 0)), some (.int (J (s : Int))), some (.int (J b)), none]) rfl (Nat.le_of_ble_eq_true rfl) ?_
  show Ev g M_X12_whyLong 27 0 [some (.ref (α 40 0)), some (.int (J (s : Int))), some (.int (J b)), none] [] h 0 0 (UQ g α ν (some (.int (J (0)))) (fun X' => X' = xs X 40 0 0 1))
  have q0 := rm_nC hM
  have q1 := wo_nC hO
  have q2 := rm_nS hM
  have q3 := wo_nS hO
  refine ev_ald0 1 dX12_whyLong_0 rfl ?_
  refine ev_ald0 2 dX12_whyLong_1 rfl ?_
  refine ev_ild1 3 dX12_whyLong_2 rfl ?_
  refine ev_ild2 4 dX12_whyLong_3 rfl ?_
  refine tc_V2 7 14 dX12_whyLong_4 lkv_X12_233 (tr40 hT) rfl rfl (by first | decide | omega) (Nat.le_of_ble_eq_true rfl) (c_X12_whyFault_b2 hT hO hM hs hb hn) ?_
  refine tm_V1 10 14 dX12_whyLong_7 lkv_X12_144 (tr40 hT) rfl rfl (by first | decide | omega) (Nat.le_of_ble_eq_true rfl) (goes_n hT (by omega)) (fun h X1 hT hP7 => ?_)
  have hM1 := hM
  have hM : RM O X1 := by rw [hP7]; exact rm_th hM1 _
  have q0 := rm_nC hM
  have q2 := rm_nS hM
  refine tj_if_ne 15 13 dX12_whyLong_10 (by decide) rfl (by first | exact TR.rng hT _ _ _ | exact R31_of _ | exact bi_R _ | (constructor <;> omega)) (fun c10 => ?_) (fun c10 => ?_)
  · exact False.elim (by omega)
  · skip
    refine tj_iconst 14 dX12_whyLong_13 rfl ?_
    exact ev_ireturn (uq_i (by first | rfl | omega | exact bi_dt (by omega) | exact bi_df (by omega) | (skip)) hT (by assumption)) rfl dX12_whyLong_14
set_option maxRecDepth 100000 in
set_option maxHeartbeats 4000000 in
theorem c_X12_whyLong_x2 {g : Gt} {α : AL} {ν : Nat → Nat → Bool} {X : XM} {h : AH} (hT : TR g α ν X h) {O : XM} (hO : WO O) (hM : RM O X)  {s : Nat} (hs : (s : Int) < nS O) {c : Nat} (hc : (c : Int) < nC O) (hq : O 12 c 5 = -1) : Mu g α ν M_X12_whyLong 27 [.ref (α 40 0), .int (J (s : Int)), .int (J (c : Int))] h (some (.int (J (0)))) (fun X' => X' = xs X 40 0 0 2) := by
  refine mu_of rfl rfl (ls := [some (.ref (α 40 0)), some (.int (J (s : Int))), some (.int (J (c : Int))), none]) rfl (Nat.le_of_ble_eq_true rfl) ?_
  show Ev g M_X12_whyLong 27 0 [some (.ref (α 40 0)), some (.int (J (s : Int))), some (.int (J (c : Int))), none] [] h 0 0 (UQ g α ν (some (.int (J (0)))) (fun X' => X' = xs X 40 0 0 2))
  have q0 := rm_nC hM
  have q1 := wo_nC hO
  have q2 := rm_nS hM
  have q3 := wo_nS hO
  refine ev_ald0 1 dX12_whyLong_0 rfl ?_
  refine ev_ald0 2 dX12_whyLong_1 rfl ?_
  refine ev_ild1 3 dX12_whyLong_2 rfl ?_
  refine ev_ild2 4 dX12_whyLong_3 rfl ?_
  refine tc_V2 7 14 dX12_whyLong_4 lkv_X12_233 (tr40 hT) rfl rfl (by first | decide | omega) (Nat.le_of_ble_eq_true rfl) (c_X12_whyFault_x2 hT hO hM hs hc hq) ?_
  refine tm_V1 10 14 dX12_whyLong_7 lkv_X12_144 (tr40 hT) rfl rfl (by first | decide | omega) (Nat.le_of_ble_eq_true rfl) (goes_n hT (by omega)) (fun h X1 hT hP7 => ?_)
  have hM1 := hM
  have hM : RM O X1 := by rw [hP7]; exact rm_th hM1 _
  have q0 := rm_nC hM
  have q2 := rm_nS hM
  refine tj_if_ne 15 13 dX12_whyLong_10 (by decide) rfl (by first | exact TR.rng hT _ _ _ | exact R31_of _ | exact bi_R _ | (constructor <;> omega)) (fun c10 => ?_) (fun c10 => ?_)
  · exact False.elim (by omega)
  · skip
    refine tj_iconst 14 dX12_whyLong_13 rfl ?_
    exact ev_ireturn (uq_i (by first | rfl | omega | exact bi_dt (by omega) | exact bi_df (by omega) | (skip)) hT (by assumption)) rfl dX12_whyLong_14
set_option maxRecDepth 100000 in
set_option maxHeartbeats 4000000 in
theorem c_X12_whyLong_x3 {g : Gt} {α : AL} {ν : Nat → Nat → Bool} {X : XM} {h : AH} (hT : TR g α ν X h) {O : XM} (hO : WO O) (hM : RM O X)  {s : Nat} (hs : (s : Int) < nS O) {c : Nat} (hc : (c : Int) < nC O) (hq : O 12 c 5 ≠ -1) (hh : hol O s (O 12 c 5).toNat = true) : Mu g α ν M_X12_whyLong 27 [.ref (α 40 0), .int (J (s : Int)), .int (J (c : Int))] h (some (.int (J (0)))) (fun X' => X' = xs X 40 0 0 3) := by
  refine mu_of rfl rfl (ls := [some (.ref (α 40 0)), some (.int (J (s : Int))), some (.int (J (c : Int))), none]) rfl (Nat.le_of_ble_eq_true rfl) ?_
  show Ev g M_X12_whyLong 27 0 [some (.ref (α 40 0)), some (.int (J (s : Int))), some (.int (J (c : Int))), none] [] h 0 0 (UQ g α ν (some (.int (J (0)))) (fun X' => X' = xs X 40 0 0 3))
  have q0 := rm_nC hM
  have q1 := wo_nC hO
  have q2 := rm_nS hM
  have q3 := wo_nS hO
  refine ev_ald0 1 dX12_whyLong_0 rfl ?_
  refine ev_ald0 2 dX12_whyLong_1 rfl ?_
  refine ev_ild1 3 dX12_whyLong_2 rfl ?_
  refine ev_ild2 4 dX12_whyLong_3 rfl ?_
  refine tc_V2 7 14 dX12_whyLong_4 lkv_X12_233 (tr40 hT) rfl rfl (by first | decide | omega) (Nat.le_of_ble_eq_true rfl) (c_X12_whyFault_x3 hT hO hM hs hc hq hh) ?_
  refine tm_V1 10 14 dX12_whyLong_7 lkv_X12_144 (tr40 hT) rfl rfl (by first | decide | omega) (Nat.le_of_ble_eq_true rfl) (goes_n hT (by omega)) (fun h X1 hT hP7 => ?_)
  have hM1 := hM
  have hM : RM O X1 := by rw [hP7]; exact rm_th hM1 _
  have q0 := rm_nC hM
  have q2 := rm_nS hM
  refine tj_if_ne 15 13 dX12_whyLong_10 (by decide) rfl (by first | exact TR.rng hT _ _ _ | exact R31_of _ | exact bi_R _ | (constructor <;> omega)) (fun c10 => ?_) (fun c10 => ?_)
  · exact False.elim (by omega)
  · skip
    refine tj_iconst 14 dX12_whyLong_13 rfl ?_
    exact ev_ireturn (uq_i (by first | rfl | omega | exact bi_dt (by omega) | exact bi_df (by omega) | (skip)) hT (by assumption)) rfl dX12_whyLong_14
set_option maxRecDepth 100000 in
set_option maxHeartbeats 4000000 in
theorem c_X12_whyLong_ok {g : Gt} {α : AL} {ν : Nat → Nat → Bool} {X : XM} {h : AH} (hT : TR g α ν X h) {O : XM} (hO : WO O) (hM : RM O X)  {s : Nat} (hs : (s : Int) < nS O) {c : Nat} (hc : (c : Int) < nC O) (hq : O 12 c 5 ≠ -1) (hh : hol O s (O 12 c 5).toNat = false) : Mu g α ν M_X12_whyLong 27 [.ref (α 40 0), .int (J (s : Int)), .int (J (c : Int))] h (some (.int (J (((rsnC O s c).1 : Int))))) (fun X' => X' = xs (xs X 40 0 0 0) 40 0 30 ((rsnC O s c).1 : Int)) := by
  refine mu_of rfl rfl (ls := [some (.ref (α 40 0)), some (.int (J (s : Int))), some (.int (J (c : Int))), none]) rfl (Nat.le_of_ble_eq_true rfl) ?_
  show Ev g M_X12_whyLong 27 0 [some (.ref (α 40 0)), some (.int (J (s : Int))), some (.int (J (c : Int))), none] [] h 0 0 (UQ g α ν (some (.int (J (((rsnC O s c).1 : Int))))) (fun X' => X' = xs (xs X 40 0 0 0) 40 0 30 ((rsnC O s c).1 : Int)))
  have q0 := rm_nC hM
  have q1 := wo_nC hO
  have q2 := rm_nS hM
  have q3 := wo_nS hO
  refine ev_ald0 1 dX12_whyLong_0 rfl ?_
  refine ev_ald0 2 dX12_whyLong_1 rfl ?_
  refine ev_ild1 3 dX12_whyLong_2 rfl ?_
  refine ev_ild2 4 dX12_whyLong_3 rfl ?_
  refine tc_V2 7 14 dX12_whyLong_4 lkv_X12_233 (tr40 hT) rfl rfl (by first | decide | omega) (Nat.le_of_ble_eq_true rfl) (c_X12_whyFault_ok hT hO hM hs hc hq hh) ?_
  refine tm_V1 10 14 dX12_whyLong_7 lkv_X12_144 (tr40 hT) rfl rfl (by first | decide | omega) (Nat.le_of_ble_eq_true rfl) (goes_0 hT) (fun h X1 hT hP7 => ?_)
  have hM1 := hM
  have hM : RM O X1 := by rw [hP7]; exact rm_th hM1 _
  have q0 := rm_nC hM
  have q2 := rm_nS hM
  refine tj_if_ne 15 13 dX12_whyLong_10 (by decide) rfl (by first | exact TR.rng hT _ _ _ | exact R31_of _ | exact bi_R _ | (constructor <;> omega)) (fun c10 => ?_) (fun c10 => ?_)
  · skip
    refine ev_ald0 16 dX12_whyLong_15 rfl ?_
    refine ev_ild1 17 dX12_whyLong_16 rfl ?_
    refine ev_ild2 18 dX12_whyLong_17 rfl ?_
    refine tm_V2 21 14 dX12_whyLong_18 lkv_X12_236 (tr40 hT) rfl rfl (by first | decide | omega) (Nat.le_of_ble_eq_true rfl) (c_X12_reasonOf hT hO hM hs hc hq hh) (fun h X1 hT hP18 => ?_)
    refine ev_ist3 22 dX12_whyLong_21 rfl (by decide) rfl ?_
    refine ev_ald0 23 dX12_whyLong_22 rfl ?_
    refine ev_getfield 26 14 30 fl_X12_230_14 (tr40 hT) rfl dX12_whyLong_23 rfl ?_
    exact ev_ireturn (uq_i (by first | rfl | omega | exact bi_dt (by omega) | exact bi_df (by omega) | (rw [hP18, xs_at, if_pos rfl])) hT (by show _ = _; rw [hP18, hP7])) rfl dX12_whyLong_26
  · exact False.elim (by omega)
