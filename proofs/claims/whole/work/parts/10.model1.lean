/-! THE REFERENCE, its leaves -/
theorem bsT_R {O : XM} (hO : WO O) {s c : Nat} (hs : (s : Int) < nS O) (hc : c < 20) : ∀ k : Nat, (k : Int) ≤ O 9 s c → -1 ≤ bsT O s c k ∧ bsT O s c k ≤ 100
  | 0, _ => by show -1 ≤ (if mvd O s c = true then (50 : Int) else -1) ∧ (if mvd O s c = true then (50 : Int) else -1) ≤ 100; split <;> omega
  | k + 1, hk => by
    have h1 := bsT_R hO hs hc k (by omega)
    have h2 := wo_trd hO s c k hs hc (by omega)
    show -1 ≤ (if _ then _ else _) ∧ (if _ then _ else _) ≤ (100 : Int)
    split <;> omega
set_option maxRecDepth 100000 in
set_option maxHeartbeats 4000000 in
theorem c_X12_in {g : Gt} {h : AH} {a : Int} (ha : R31 a) {b : Int} (hb : R31 b) {c : Int} (hc : R31 c) : Pr g M_X12_in 0 [.int (J a), .int (J b), .int (J c)] h (some (.int (J (bi (decide (b ≤ a ∧ a ≤ c)))))) := by
  refine pr_of rfl rfl (ls := [some (.int (J a)), some (.int (J b)), some (.int (J c))]) rfl (Nat.le_of_ble_eq_true rfl) ?_
  show Ev g M_X12_in 0 0 [some (.int (J a)), some (.int (J b)), some (.int (J c))] [] h 0 0 (PQ (some (.int (J (bi (decide (b ≤ a ∧ a ≤ c)))))) h)
  refine ev_ild0 1 dX12_in_0 rfl ?_
  refine ev_ild1 2 dX12_in_1 rfl ?_
  refine tj_icmp_lt 14 5 dX12_in_2 (by decide) rfl (by first | exact TR.rng hT _ _ _ | exact R31_of _ | exact bi_R _ | (constructor <;> omega)) (by first | exact TR.rng hT _ _ _ | exact R31_of _ | exact bi_R _ | (constructor <;> omega)) (fun c2 => ?_) (fun c2 => ?_)
  · skip
    refine tj_iconst 15 dX12_in_14 rfl ?_
    exact tz_ret (by first | rfl | omega | exact bi_dt (by omega) | exact bi_df (by omega) | (skip)) rfl dX12_in_15
  · skip
    refine ev_ild0 6 dX12_in_5 rfl ?_
    refine ev_ild2 7 dX12_in_6 rfl ?_
    refine tj_icmp_gt 14 10 dX12_in_7 (by decide) rfl (by first | exact TR.rng hT _ _ _ | exact R31_of _ | exact bi_R _ | (constructor <;> omega)) (by first | exact TR.rng hT _ _ _ | exact R31_of _ | exact bi_R _ | (constructor <;> omega)) (fun c7 => ?_) (fun c7 => ?_)
    · skip
      refine tj_iconst 15 dX12_in_14 rfl ?_
      exact tz_ret (by first | rfl | omega | exact bi_dt (by omega) | exact bi_df (by omega) | (skip)) rfl dX12_in_15
    · skip
      refine tj_iconst 11 dX12_in_10 rfl ?_
      refine ev_goto 15 dX12_in_11 (by decide) ?_
      exact tz_ret (by first | rfl | omega | exact bi_dt (by omega) | exact bi_df (by omega) | (skip)) rfl dX12_in_15
theorem hb_1 {n k : Nat} (e : ((n >>> k &&& 1 : Nat) : Int) = 1) : (1 : Int) = bi (n.testBit k) := by
  have e2 : n >>> k &&& 1 = 1 := by omega
  rw [Nat.testBit, Nat.and_comm, e2]; rfl
theorem hb_0 {n k : Nat} (e : ¬ ((n >>> k &&& 1 : Nat) : Int) = 1) : (0 : Int) = bi (n.testBit k) := by
  have e2 : n >>> k &&& 1 = 0 := by
    have := Nat.and_le_right (n := n >>> k) (m := 1)
    omega
  rw [Nat.testBit, Nat.and_comm, e2]; rfl
set_option maxRecDepth 100000 in
set_option maxHeartbeats 4000000 in
theorem c_X12_has {g : Gt} {h : AH} {z : Int} {k : Nat} (hz : 0 ≤ z ∧ z < 2147483648) (hk : k < 32) : Pr g M_X12_has 0 [.int (J z), .int (J (k : Int))] h (some (.int (J (bi (z.toNat.testBit k))))) := by
  refine pr_of rfl rfl (ls := [some (.int (J z)), some (.int (J (k : Int)))]) rfl (Nat.le_of_ble_eq_true rfl) ?_
  show Ev g M_X12_has 0 0 [some (.int (J z)), some (.int (J (k : Int)))] [] h 0 0 (PQ (some (.int (J (bi (z.toNat.testBit k))))) h)
  have hr : ((z.toNat >>> k &&& 1 : Nat) : Int) ≤ 1 := by have := Nat.and_le_right (n := z.toNat >>> k) (m := 1); omega
  refine ev_ild0 1 dX12_has_0 rfl ?_
  refine ev_ild1 2 dX12_has_1 rfl ?_
  refine tj_ishr 3 dX12_has_2 z.toNat k (by omega) rfl (by omega) hk rfl ?_
  refine tj_iconst 4 dX12_has_3 rfl ?_
  refine tj_iand 5 dX12_has_4 _ 1 rfl rfl rfl ?_
  refine tj_iconst 6 dX12_has_5 rfl ?_
  refine tj_icmp_ne 13 9 dX12_has_6 (by decide) rfl (by first | exact TR.rng hT _ _ _ | exact R31_of _ | exact bi_R _ | (constructor <;> omega)) (by first | exact TR.rng hT _ _ _ | exact R31_of _ | exact bi_R _ | (constructor <;> omega)) (fun c6 => ?_) (fun c6 => ?_)
  · skip
    refine tj_iconst 14 dX12_has_13 rfl ?_
    exact tz_ret (by first | rfl | omega | exact bi_dt (by omega) | exact bi_df (by omega) | (first | exact hb_1 (by assumption) | exact hb_0 (by assumption))) rfl dX12_has_14
  · skip
    refine tj_iconst 10 dX12_has_9 rfl ?_
    refine ev_goto 14 dX12_has_10 (by decide) ?_
    exact tz_ret (by first | rfl | omega | exact bi_dt (by omega) | exact bi_df (by omega) | (first | exact hb_1 (by assumption) | exact hb_0 (by assumption))) rfl dX12_has_14
theorem has_of {g : Gt} {h : AH} {z : Int} {f : Nat → Int} {k : Nat} {p : Bool} (hz : bitsE z f) (hk : k < 20) (hp : p = decide (f k ≠ 0)) : Pr g M_X12_has 0 [.int (J z), .int (J (k : Int))] h (some (.int (J (bi p)))) := by
  rw [hp, ← hz.2.2 k hk]
  have h1 := hz.1
  have h2 := hz.2.1
  exact c_X12_has (by omega) (by omega)
set_option maxRecDepth 100000 in
set_option maxHeartbeats 4000000 in
theorem c_X12_at {g : Gt} {h : AH} {a b : Int} : Pr g M_X12_at 0 [.int (J a), .int (J b)] h (some (.int (J (20 * a + b)))) := by
  refine pr_of rfl rfl (ls := [some (.int (J a)), some (.int (J b))]) rfl (Nat.le_of_ble_eq_true rfl) ?_
  show Ev g M_X12_at 0 0 [some (.int (J a)), some (.int (J b))] [] h 0 0 (PQ (some (.int (J (20 * a + b)))) h)
  refine tj_bipush 2 dX12_at_0 (by decide) rfl ?_
  refine ev_ild0 3 dX12_at_2 rfl ?_
  refine tj_imul 4 dX12_at_3 rfl ?_
  refine ev_ild1 5 dX12_at_4 rfl ?_
  refine tj_iadd 6 dX12_at_5 rfl ?_
  exact ev_ireturn (pq_i (by first | rfl | omega | exact bi_dt (by omega) | exact bi_df (by omega) | (skip))) rfl dX12_at_6
set_option maxRecDepth 100000 in
set_option maxHeartbeats 4000000 in
theorem c_X12_isCourse {g : Gt} {α : AL} {ν : Nat → Nat → Bool} {X : XM} {h : AH} (hT : TR g α ν X h) {O : XM} (hO : WO O) (hM : RM O X) {a : Int} (ha : R31 a) : Pr g M_X12_isCourse 1 [.ref (α 40 0), .int (J a)] h (some (.int (J (bi (decide (0 ≤ a ∧ a < nC O)))))) := by
  refine pr_of rfl rfl (ls := [some (.ref (α 40 0)), some (.int (J a))]) rfl (Nat.le_of_ble_eq_true rfl) ?_
  show Ev g M_X12_isCourse 1 0 [some (.ref (α 40 0)), some (.int (J a))] [] h 0 0 (PQ (some (.int (J (bi (decide (0 ≤ a ∧ a < nC O)))))) h)
  have q0 := rm_nC hM
  have q1 := wo_nC hO
  refine ev_ild1 1 dX12_isCourse_0 rfl ?_
  refine tj_iconst 2 dX12_isCourse_1 rfl ?_
  refine ev_ald0 3 dX12_isCourse_2 rfl ?_
  refine ev_getfield 6 14 3 fl_X12_93_14 (tr40 hT) rfl dX12_isCourse_3 rfl ?_
  refine tj_iconst 7 dX12_isCourse_6 rfl ?_
  refine tj_isub 8 dX12_isCourse_7 rfl ?_
  refine tc_S3 11 dX12_isCourse_8 lks_X12_96 rfl (by first | decide | omega) (Nat.le_of_ble_eq_true rfl) (c_X12_in (by first | exact TR.rng hT _ _ _ | exact R31_of _ | exact bi_R _ | (constructor <;> omega)) (by first | exact TR.rng hT _ _ _ | exact R31_of _ | exact bi_R _ | (constructor <;> omega)) (by first | exact TR.rng hT _ _ _ | exact R31_of _ | exact bi_R _ | (constructor <;> omega))) ?_
  exact tz_ret (by first | rfl | omega | exact bi_dt (by omega) | exact bi_df (by omega) | (congr 2; rw [q0]; simp; omega)) rfl dX12_isCourse_11
set_option maxRecDepth 100000 in
set_option maxHeartbeats 4000000 in
theorem c_X12_isStudent {g : Gt} {α : AL} {ν : Nat → Nat → Bool} {X : XM} {h : AH} (hT : TR g α ν X h) {O : XM} (hO : WO O) (hM : RM O X) {a : Int} (ha : R31 a) : Pr g M_X12_isStudent 1 [.ref (α 40 0), .int (J a)] h (some (.int (J (bi (decide (0 ≤ a ∧ a < nS O)))))) := by
  refine pr_of rfl rfl (ls := [some (.ref (α 40 0)), some (.int (J a))]) rfl (Nat.le_of_ble_eq_true rfl) ?_
  show Ev g M_X12_isStudent 1 0 [some (.ref (α 40 0)), some (.int (J a))] [] h 0 0 (PQ (some (.int (J (bi (decide (0 ≤ a ∧ a < nS O)))))) h)
  have q0 := rm_nS hM
  have q1 := wo_nS hO
  refine ev_ild1 1 dX12_isStudent_0 rfl ?_
  refine tj_iconst 2 dX12_isStudent_1 rfl ?_
  refine ev_ald0 3 dX12_isStudent_2 rfl ?_
  refine ev_getfield 6 14 10 fl_X12_100_14 (tr40 hT) rfl dX12_isStudent_3 rfl ?_
  refine tj_iconst 7 dX12_isStudent_6 rfl ?_
  refine tj_isub 8 dX12_isStudent_7 rfl ?_
  refine tc_S3 11 dX12_isStudent_8 lks_X12_96 rfl (by first | decide | omega) (Nat.le_of_ble_eq_true rfl) (c_X12_in (by first | exact TR.rng hT _ _ _ | exact R31_of _ | exact bi_R _ | (constructor <;> omega)) (by first | exact TR.rng hT _ _ _ | exact R31_of _ | exact bi_R _ | (constructor <;> omega)) (by first | exact TR.rng hT _ _ _ | exact R31_of _ | exact bi_R _ | (constructor <;> omega))) ?_
  exact tz_ret (by first | rfl | omega | exact bi_dt (by omega) | exact bi_df (by omega) | (congr 2; rw [q0]; simp; omega)) rfl dX12_isStudent_11
set_option maxRecDepth 100000 in
set_option maxHeartbeats 4000000 in
theorem c_X12_isFormula {g : Gt} {α : AL} {ν : Nat → Nat → Bool} {X : XM} {h : AH} (hT : TR g α ν X h) {O : XM} (hO : WO O) (hM : RM O X) {a : Int} (ha : R31 a) : Pr g M_X12_isFormula 1 [.ref (α 40 0), .int (J a)] h (some (.int (J (bi (decide (0 ≤ a ∧ a < nF O)))))) := by
  refine pr_of rfl rfl (ls := [some (.ref (α 40 0)), some (.int (J a))]) rfl (Nat.le_of_ble_eq_true rfl) ?_
  show Ev g M_X12_isFormula 1 0 [some (.ref (α 40 0)), some (.int (J a))] [] h 0 0 (PQ (some (.int (J (bi (decide (0 ≤ a ∧ a < nF O)))))) h)
  have q0 := rm_nF hM
  have q1 := wo_nF hO
  refine ev_ild1 1 dX12_isFormula_0 rfl ?_
  refine tj_iconst 2 dX12_isFormula_1 rfl ?_
  refine ev_ald0 3 dX12_isFormula_2 rfl ?_
  refine ev_getfield 6 14 17 fl_X12_103_14 (tr40 hT) rfl dX12_isFormula_3 rfl ?_
  refine tj_iconst 7 dX12_isFormula_6 rfl ?_
  refine tj_isub 8 dX12_isFormula_7 rfl ?_
  refine tc_S3 11 dX12_isFormula_8 lks_X12_96 rfl (by first | decide | omega) (Nat.le_of_ble_eq_true rfl) (c_X12_in (by first | exact TR.rng hT _ _ _ | exact R31_of _ | exact bi_R _ | (constructor <;> omega)) (by first | exact TR.rng hT _ _ _ | exact R31_of _ | exact bi_R _ | (constructor <;> omega)) (by first | exact TR.rng hT _ _ _ | exact R31_of _ | exact bi_R _ | (constructor <;> omega))) ?_
  exact tz_ret (by first | rfl | omega | exact bi_dt (by omega) | exact bi_df (by omega) | (congr 2; rw [q0]; simp; omega)) rfl dX12_isFormula_11
set_option maxRecDepth 100000 in
set_option maxHeartbeats 4000000 in
theorem c_X12_enrolledIn {g : Gt} {α : AL} {ν : Nat → Nat → Bool} {X : XM} {h : AH} (hT : TR g α ν X h) {O : XM} (hO : WO O) (hM : RM O X) {c : Nat} (hc : c < 20) : Pr g M_X12_enrolledIn 1 [.ref (α 40 0), .int (J (c : Int))] h (some (.int (J (enr O c)))) := by
  refine pr_of rfl rfl (ls := [some (.ref (α 40 0)), some (.int (J (c : Int))), none, none]) rfl (Nat.le_of_ble_eq_true rfl) ?_
  show Ev g M_X12_enrolledIn 1 0 [some (.ref (α 40 0)), some (.int (J (c : Int))), none, none] [] h 0 0 (PQ (some (.int (J (enr O c)))) h)
  have q0 := rm_nC hM
  have q1 := wo_nC hO
  have q2 := rm_nS hM
  have q3 := wo_nS hO
  refine tj_iconst 1 dX12_enrolledIn_0 rfl ?_
  refine ev_ist2 2 dX12_enrolledIn_1 rfl (by decide) rfl ?_
  refine tj_iconst 3 dX12_enrolledIn_2 rfl ?_
  refine ev_ist3 4 dX12_enrolledIn_3 rfl (by decide) rfl ?_
  have lp4 : ∀ (n4 : Nat) (s : Nat) (z2 : Int) (z3 : Int) , 16 - s < n4 → ((s : Int) ≤ nS O) → z2 = cnt (fun s => tak O s c) s → z3 = (s : Int) → Ev g M_X12_enrolledIn 1 4 [some (.ref (α 40 0)), some (.int (J (c : Int))), some (.int (J z2)), some (.int (J z3))] [] h 0 0 (PQ (some (.int (J (enr O c)))) h) := by
    intro n4
    induction n4 with
    | zero => intro s z2 z3 hm; exact absurd hm (Nat.not_lt_zero _)
    | succ n4 ih4 =>
      intro s z2 z3 hm4 hs e2 e3
      subst e2
      subst e3
      refine ev_ild3 5 dX12_enrolledIn_4 rfl ?_
      refine ev_ald0 6 dX12_enrolledIn_5 rfl ?_
      refine ev_getfield 9 14 10 fl_X12_100_14 (tr40 hT) rfl dX12_enrolledIn_6 rfl ?_
      refine tj_icmp_ge 39 12 dX12_enrolledIn_9 (by decide) rfl (by first | exact TR.rng hT _ _ _ | exact R31_of _ | exact bi_R _ | (constructor <;> omega)) (by first | exact TR.rng hT _ _ _ | exact R31_of _ | exact bi_R _ | (constructor <;> omega)) (fun c9 => ?_) (fun c9 => ?_)
      · skip
        refine ev_ild2 40 dX12_enrolledIn_39 rfl ?_
        exact ev_ireturn (pq_i (by first | rfl | omega | exact bi_dt (by omega) | exact bi_df (by omega) | (rw [show s = (nS O).toNat by omega]; rfl))) rfl dX12_enrolledIn_40
      · skip
        refine ev_ild2 13 dX12_enrolledIn_12 rfl ?_
        refine ev_ald0 14 dX12_enrolledIn_13 rfl ?_
        refine ev_getfield 17 14 12 fl_X12_31_14 (tr40 hT) rfl dX12_enrolledIn_14 rfl ?_
        refine ev_ild3 18 dX12_enrolledIn_17 rfl ?_
        refine tv_iald 19 (tr52 hT) (s) (by omega) (by omega) (by omega) dX12_enrolledIn_18 rfl ?_
        refine ev_ild1 20 dX12_enrolledIn_19 rfl ?_
        refine tc_S2 23 dX12_enrolledIn_20 lks_X12_106 rfl (by first | decide | omega) (Nat.le_of_ble_eq_true rfl) (has_of (rm_tak hM _ (by omega)) (by omega) rfl : Pr g M_X12_has 0 _ h (some (.int (J (bi (tak O _ _)))))) ?_
        refine tb_if_eq 30 26 dX12_enrolledIn_23 (by decide) rfl (fun c23 => ?_) (fun c23 => ?_)
        · skip
          refine tj_iconst 31 dX12_enrolledIn_30 rfl ?_
          refine tj_iadd 32 dX12_enrolledIn_31 rfl ?_
          refine ev_ist2 33 dX12_enrolledIn_32 rfl (by decide) rfl ?_
          refine tj_inc3 36 dX12_enrolledIn_33 rfl (by decide) rfl ?_
          refine ev_goto 4 dX12_enrolledIn_36 (by decide) ?_
          exact ih4 (s + 1) _ _ (by omega) (by first | omega | assumption | omega) (by first | rfl | omega | (simp [cnt_s, c23])) (by first | rfl | omega | (simp [cnt_s, c23]))
        · skip
          refine tj_iconst 27 dX12_enrolledIn_26 rfl ?_
          refine ev_goto 31 dX12_enrolledIn_27 (by decide) ?_
          refine tj_iadd 32 dX12_enrolledIn_31 rfl ?_
          refine ev_ist2 33 dX12_enrolledIn_32 rfl (by decide) rfl ?_
          refine tj_inc3 36 dX12_enrolledIn_33 rfl (by decide) rfl ?_
          refine ev_goto 4 dX12_enrolledIn_36 (by decide) ?_
          exact ih4 (s + 1) _ _ (by omega) (by first | omega | assumption | omega) (by first | rfl | omega | (simp [cnt_s, c23])) (by first | rfl | omega | (simp [cnt_s, c23]))
  exact lp4 _ (0) _ _ (Nat.lt_succ_self _) (by first | omega | assumption | omega) (by first | rfl | omega | (simp [cnt_s, c23])) (by first | rfl | omega | (simp [cnt_s, c23]))
set_option maxRecDepth 100000 in
set_option maxHeartbeats 4000000 in
theorem c_X12_enrolledOf {g : Gt} {α : AL} {ν : Nat → Nat → Bool} {X : XM} {h : AH} (hT : TR g α ν X h) {O : XM} (hO : WO O) (hM : RM O X) {c : Nat} (hc : c < 20) {m : Int} (hm : R31 m) : Pr g M_X12_enrolledOf 1 [.ref (α 40 0), .int (J (c : Int)), .int (J m)] h (some (.int (J (enrM O c m)))) := by
  refine pr_of rfl rfl (ls := [some (.ref (α 40 0)), some (.int (J (c : Int))), some (.int (J m)), none, none]) rfl (Nat.le_of_ble_eq_true rfl) ?_
  show Ev g M_X12_enrolledOf 1 0 [some (.ref (α 40 0)), some (.int (J (c : Int))), some (.int (J m)), none, none] [] h 0 0 (PQ (some (.int (J (enrM O c m)))) h)
  have q0 := rm_nC hM
  have q1 := wo_nC hO
  have q2 := rm_nS hM
  have q3 := wo_nS hO
  refine tj_iconst 1 dX12_enrolledOf_0 rfl ?_
  refine ev_ist3 2 dX12_enrolledOf_1 rfl (by decide) rfl ?_
  refine tj_iconst 3 dX12_enrolledOf_2 rfl ?_
  refine ev_ist4 5 dX12_enrolledOf_3 rfl (by decide) rfl ?_
  have lp5 : ∀ (n5 : Nat) (s : Nat) (z3 : Int) (z4 : Int) , 16 - s < n5 → ((s : Int) ≤ nS O) → z3 = cnt (fun s => tak O s c && decide (O 4 s 0 = m)) s → z4 = (s : Int) → Ev g M_X12_enrolledOf 1 5 [some (.ref (α 40 0)), some (.int (J (c : Int))), some (.int (J m)), some (.int (J z3)), some (.int (J z4))] [] h 0 0 (PQ (some (.int (J (enrM O c m)))) h) := by
    intro n5
    induction n5 with
    | zero => intro s z3 z4 hm; exact absurd hm (Nat.not_lt_zero _)
    | succ n5 ih5 =>
      intro s z3 z4 hm5 hs e3 e4
      subst e3
      subst e4
      refine ev_ild4 7 dX12_enrolledOf_5 rfl ?_
      refine ev_ald0 8 dX12_enrolledOf_7 rfl ?_
      refine ev_getfield 11 14 10 fl_X12_100_14 (tr40 hT) rfl dX12_enrolledOf_8 rfl ?_
      refine tj_icmp_ge 53 14 dX12_enrolledOf_11 (by decide) rfl (by first | exact TR.rng hT _ _ _ | exact R31_of _ | exact bi_R _ | (constructor <;> omega)) (by first | exact TR.rng hT _ _ _ | exact R31_of _ | exact bi_R _ | (constructor <;> omega)) (fun c11 => ?_) (fun c11 => ?_)
      · skip
        refine ev_ild3 54 dX12_enrolledOf_53 rfl ?_
        exact ev_ireturn (pq_i (by first | rfl | omega | exact bi_dt (by omega) | exact bi_df (by omega) | (rw [show s = (nS O).toNat by omega]; rfl))) rfl dX12_enrolledOf_54
      · skip
        have q5 := rm_maj hM s (by omega)
        refine ev_ild3 15 dX12_enrolledOf_14 rfl ?_
        refine ev_ald0 16 dX12_enrolledOf_15 rfl ?_
        refine ev_getfield 19 14 12 fl_X12_31_14 (tr40 hT) rfl dX12_enrolledOf_16 rfl ?_
        refine ev_ild4 21 dX12_enrolledOf_19 rfl ?_
        refine tv_iald 22 (tr52 hT) (s) (by omega) (by omega) (by omega) dX12_enrolledOf_21 rfl ?_
        refine ev_ild1 23 dX12_enrolledOf_22 rfl ?_
        refine tc_S2 26 dX12_enrolledOf_23 lks_X12_106 rfl (by first | decide | omega) (Nat.le_of_ble_eq_true rfl) (has_of (rm_tak hM _ (by omega)) (by omega) rfl : Pr g M_X12_has 0 _ h (some (.int (J (bi (tak O _ _)))))) ?_
        refine tb_if_eq 44 29 dX12_enrolledOf_26 (by decide) rfl (fun c26 => ?_) (fun c26 => ?_)
        · skip
          refine tj_iconst 45 dX12_enrolledOf_44 rfl ?_
          refine tj_iadd 46 dX12_enrolledOf_45 rfl ?_
          refine ev_ist3 47 dX12_enrolledOf_46 rfl (by decide) rfl ?_
          refine tj_inc4 50 dX12_enrolledOf_47 rfl (by decide) rfl ?_
          refine ev_goto 5 dX12_enrolledOf_50 (by decide) ?_
          exact ih5 (s + 1) _ _ (by omega) (by first | omega | assumption | omega) (by first | rfl | omega | (simp [cnt_s, c26]; try omega)) (by first | rfl | omega | (simp [cnt_s, c26]; try omega))
        · skip
          refine ev_ald0 30 dX12_enrolledOf_29 rfl ?_
          refine ev_getfield 33 14 11 fl_X12_28_14 (tr40 hT) rfl dX12_enrolledOf_30 rfl ?_
          refine ev_ild4 35 dX12_enrolledOf_33 rfl ?_
          refine tv_iald 36 (tr51 hT) (s) (by omega) (by omega) (by omega) dX12_enrolledOf_35 rfl ?_
          refine ev_ild2 37 dX12_enrolledOf_36 rfl ?_
          refine tj_icmp_ne 44 40 dX12_enrolledOf_37 (by decide) rfl (by first | exact TR.rng hT _ _ _ | exact R31_of _ | exact bi_R _ | (constructor <;> omega)) (by first | exact TR.rng hT _ _ _ | exact R31_of _ | exact bi_R _ | (constructor <;> omega)) (fun c37 => ?_) (fun c37 => ?_)
          · skip
            refine tj_iconst 45 dX12_enrolledOf_44 rfl ?_
            refine tj_iadd 46 dX12_enrolledOf_45 rfl ?_
            refine ev_ist3 47 dX12_enrolledOf_46 rfl (by decide) rfl ?_
            refine tj_inc4 50 dX12_enrolledOf_47 rfl (by decide) rfl ?_
            refine ev_goto 5 dX12_enrolledOf_50 (by decide) ?_
            exact ih5 (s + 1) _ _ (by omega) (by first | omega | assumption | omega) (by first | rfl | omega | (simp [cnt_s, c26]; try omega)) (by first | rfl | omega | (simp [cnt_s, c26]; try omega))
          · skip
            refine tj_iconst 41 dX12_enrolledOf_40 rfl ?_
            refine ev_goto 45 dX12_enrolledOf_41 (by decide) ?_
            refine tj_iadd 46 dX12_enrolledOf_45 rfl ?_
            refine ev_ist3 47 dX12_enrolledOf_46 rfl (by decide) rfl ?_
            refine tj_inc4 50 dX12_enrolledOf_47 rfl (by decide) rfl ?_
            refine ev_goto 5 dX12_enrolledOf_50 (by decide) ?_
            exact ih5 (s + 1) _ _ (by omega) (by first | omega | assumption | omega) (by first | rfl | omega | (simp [cnt_s, c26]; try omega)) (by first | rfl | omega | (simp [cnt_s, c26]; try omega))
  exact lp5 _ (0) _ _ (Nat.lt_succ_self _) (by first | omega | assumption | omega) (by first | rfl | omega | (simp [cnt_s, c26]; try omega)) (by first | rfl | omega | (simp [cnt_s, c26]; try omega))
set_option maxRecDepth 100000 in
set_option maxHeartbeats 4000000 in
theorem c_X12_bestOf {g : Gt} {α : AL} {ν : Nat → Nat → Bool} {X : XM} {h : AH} (hT : TR g α ν X h) {O : XM} (hO : WO O) (hM : RM O X) {s : Nat} (hs : (s : Int) < nS O) {c : Nat} (hc : c < 20) : Pr g M_X12_bestOf 1 [.ref (α 40 0), .int (J (s : Int)), .int (J (c : Int))] h (some (.int (J (O 8 s c)))) := by
  refine pr_of rfl rfl (ls := [some (.ref (α 40 0)), some (.int (J (s : Int))), some (.int (J (c : Int))), none, none, none]) rfl (Nat.le_of_ble_eq_true rfl) ?_
  show Ev g M_X12_bestOf 1 0 [some (.ref (α 40 0)), some (.int (J (s : Int))), some (.int (J (c : Int))), none, none, none] [] h 0 0 (PQ (some (.int (J (O 8 s c)))) h)
  have q0 := rm_nC hM
  have q1 := wo_nC hO
  have q2 := rm_nS hM
  have q3 := wo_nS hO
  have q4 := wo_bsq hO s c hs hc
  have q5 := wo_tri hO s c hs hc
  have q6 := rm_tri hM s c hs hc
  refine ev_ald0 1 dX12_bestOf_0 rfl ?_
  refine ev_getfield 4 14 13 fl_X12_34_14 (tr40 hT) rfl dX12_bestOf_1 rfl ?_
  refine ev_ild1 5 dX12_bestOf_4 rfl ?_
  refine tv_iald 6 (tr53 hT) (s) (by omega) (by omega) (by omega) dX12_bestOf_5 rfl ?_
  refine ev_ild2 7 dX12_bestOf_6 rfl ?_
  refine tc_S2 10 dX12_bestOf_7 lks_X12_106 rfl (by first | decide | omega) (Nat.le_of_ble_eq_true rfl) (has_of (rm_mov hM _ (by omega)) (by omega) rfl : Pr g M_X12_has 0 _ h (some (.int (J (bi (mvd O _ _)))))) ?_
  refine tb_if_eq 18 13 dX12_bestOf_10 (by decide) rfl (fun c10 => ?_) (fun c10 => ?_)
  · skip
    refine tj_iconst 19 dX12_bestOf_18 rfl ?_
    refine ev_ist3 20 dX12_bestOf_19 rfl (by decide) rfl ?_
    refine tj_iconst 21 dX12_bestOf_20 rfl ?_
    refine ev_ist4 23 dX12_bestOf_21 rfl (by decide) rfl ?_
    have lp23 : ∀ (n23 : Nat) (k : Nat) (z3 : Int) (z4 : Int) (o5 : Option Value), 4 - k < n23 → ((k : Int) ≤ O 9 s c) → z3 = bsT O s c k → z4 = (k : Int) → Ev g M_X12_bestOf 1 23 [some (.ref (α 40 0)), some (.int (J (s : Int))), some (.int (J (c : Int))), some (.int (J z3)), some (.int (J z4)), o5] [] h 0 0 (PQ (some (.int (J (O 8 s c)))) h) := by
      intro n23
      induction n23 with
      | zero => intro k z3 z4 o5 hm; exact absurd hm (Nat.not_lt_zero _)
      | succ n23 ih23 =>
        intro k z3 z4 o5 hm23 hk e3 e4
        subst e3
        subst e4
        refine ev_ild4 25 dX12_bestOf_23 rfl ?_
        refine ev_ald0 26 dX12_bestOf_25 rfl ?_
        refine ev_getfield 29 14 15 fl_X12_40_14 (tr40 hT) rfl dX12_bestOf_26 rfl ?_
        refine ev_ild1 30 dX12_bestOf_29 rfl ?_
        refine ev_ild2 31 dX12_bestOf_30 rfl ?_
        refine tc_S2 34 dX12_bestOf_31 lks_X12_110 rfl (by first | decide | omega) (Nat.le_of_ble_eq_true rfl) c_X12_at ?_
        refine tv_iald 35 (tr55 hT) ((20 * s + c)) (by omega) (by omega) (by omega) dX12_bestOf_34 rfl ?_
        refine tj_icmp_ge 74 38 dX12_bestOf_35 (by decide) rfl (by first | exact TR.rng hT _ _ _ | exact R31_of _ | exact bi_R _ | (constructor <;> omega)) (by first | exact TR.rng hT _ _ _ | exact R31_of _ | exact bi_R _ | (constructor <;> omega)) (fun c35 => ?_) (fun c35 => ?_)
        · skip
          refine ev_ild3 75 dX12_bestOf_74 rfl ?_
          exact ev_ireturn (pq_i (by first | rfl | omega | exact bi_dt (by omega) | exact bi_df (by omega) | (rw [q4, show k = (O 9 s c).toNat by omega]))) rfl dX12_bestOf_75
        · skip
          have q7 := rm_trd hM s c k hs hc (by omega)
          have q8 := bsT_R hO hs hc k hk
          refine ev_ald0 39 dX12_bestOf_38 rfl ?_
          refine ev_getfield 42 14 16 fl_X12_43_14 (tr40 hT) rfl dX12_bestOf_39 rfl ?_
          refine tj_iconst 43 dX12_bestOf_42 rfl ?_
          refine ev_ild1 44 dX12_bestOf_43 rfl ?_
          refine ev_ild2 45 dX12_bestOf_44 rfl ?_
          refine tc_S2 48 dX12_bestOf_45 lks_X12_110 rfl (by first | decide | omega) (Nat.le_of_ble_eq_true rfl) c_X12_at ?_
          refine tj_imul 49 dX12_bestOf_48 rfl ?_
          refine ev_ild4 51 dX12_bestOf_49 rfl ?_
          refine tj_iadd 52 dX12_bestOf_51 rfl ?_
          refine tv_iald 53 (tr56 hT) (((3 * (20 * s + c)) + k)) (by omega) (by omega) (by omega) dX12_bestOf_52 rfl ?_
          refine ev_ist5 55 dX12_bestOf_53 rfl (by decide) rfl ?_
          refine ev_ild5 57 dX12_bestOf_55 rfl ?_
          refine ev_ild3 58 dX12_bestOf_57 rfl ?_
          refine tj_icmp_le 66 61 dX12_bestOf_58 (by decide) rfl (by first | exact TR.rng hT _ _ _ | exact R31_of _ | exact bi_R _ | (constructor <;> omega)) (by first | exact TR.rng hT _ _ _ | exact R31_of _ | exact bi_R _ | (constructor <;> omega)) (fun c58 => ?_) (fun c58 => ?_)
          · skip
            refine ev_ild3 67 dX12_bestOf_66 rfl ?_
            refine ev_ist3 68 dX12_bestOf_67 rfl (by decide) rfl ?_
            refine tj_inc4 71 dX12_bestOf_68 rfl (by decide) rfl ?_
            refine ev_goto 23 dX12_bestOf_71 (by decide) ?_
            exact ih23 (k + 1) _ _ _ (by omega) (by first | omega | assumption | omega) (by first | rfl | omega | (first | (simp [bsT, c10]; done) | (simp only [bsT]; split <;> omega))) (by first | rfl | omega | (first | (simp [bsT, c10]; done) | (simp only [bsT]; split <;> omega)))
          · skip
            refine ev_ild5 63 dX12_bestOf_61 rfl ?_
            refine ev_goto 67 dX12_bestOf_63 (by decide) ?_
            refine ev_ist3 68 dX12_bestOf_67 rfl (by decide) rfl ?_
            refine tj_inc4 71 dX12_bestOf_68 rfl (by decide) rfl ?_
            refine ev_goto 23 dX12_bestOf_71 (by decide) ?_
            exact ih23 (k + 1) _ _ _ (by omega) (by first | omega | assumption | omega) (by first | rfl | omega | (first | (simp [bsT, c10]; done) | (simp only [bsT]; split <;> omega))) (by first | rfl | omega | (first | (simp [bsT, c10]; done) | (simp only [bsT]; split <;> omega)))
    exact lp23 _ (0) _ _ _ (Nat.lt_succ_self _) (by first | omega | assumption | omega) (by first | rfl | omega | (first | (simp [bsT, c10]; done) | (simp only [bsT]; split <;> omega))) (by first | rfl | omega | (first | (simp [bsT, c10]; done) | (simp only [bsT]; split <;> omega)))
  · skip
    refine tj_bipush 15 dX12_bestOf_13 (by decide) rfl ?_
    refine ev_goto 19 dX12_bestOf_15 (by decide) ?_
    refine ev_ist3 20 dX12_bestOf_19 rfl (by decide) rfl ?_
    refine tj_iconst 21 dX12_bestOf_20 rfl ?_
    refine ev_ist4 23 dX12_bestOf_21 rfl (by decide) rfl ?_
    have lp23 : ∀ (n23 : Nat) (k : Nat) (z3 : Int) (z4 : Int) (o5 : Option Value), 4 - k < n23 → ((k : Int) ≤ O 9 s c) → z3 = bsT O s c k → z4 = (k : Int) → Ev g M_X12_bestOf 1 23 [some (.ref (α 40 0)), some (.int (J (s : Int))), some (.int (J (c : Int))), some (.int (J z3)), some (.int (J z4)), o5] [] h 0 0 (PQ (some (.int (J (O 8 s c)))) h) := by
      intro n23
      induction n23 with
      | zero => intro k z3 z4 o5 hm; exact absurd hm (Nat.not_lt_zero _)
      | succ n23 ih23 =>
        intro k z3 z4 o5 hm23 hk e3 e4
        subst e3
        subst e4
        refine ev_ild4 25 dX12_bestOf_23 rfl ?_
        refine ev_ald0 26 dX12_bestOf_25 rfl ?_
        refine ev_getfield 29 14 15 fl_X12_40_14 (tr40 hT) rfl dX12_bestOf_26 rfl ?_
        refine ev_ild1 30 dX12_bestOf_29 rfl ?_
        refine ev_ild2 31 dX12_bestOf_30 rfl ?_
        refine tc_S2 34 dX12_bestOf_31 lks_X12_110 rfl (by first | decide | omega) (Nat.le_of_ble_eq_true rfl) c_X12_at ?_
        refine tv_iald 35 (tr55 hT) ((20 * s + c)) (by omega) (by omega) (by omega) dX12_bestOf_34 rfl ?_
        refine tj_icmp_ge 74 38 dX12_bestOf_35 (by decide) rfl (by first | exact TR.rng hT _ _ _ | exact R31_of _ | exact bi_R _ | (constructor <;> omega)) (by first | exact TR.rng hT _ _ _ | exact R31_of _ | exact bi_R _ | (constructor <;> omega)) (fun c35 => ?_) (fun c35 => ?_)
        · skip
          refine ev_ild3 75 dX12_bestOf_74 rfl ?_
          exact ev_ireturn (pq_i (by first | rfl | omega | exact bi_dt (by omega) | exact bi_df (by omega) | (rw [q4, show k = (O 9 s c).toNat by omega]))) rfl dX12_bestOf_75
        · skip
          have q7 := rm_trd hM s c k hs hc (by omega)
          have q8 := bsT_R hO hs hc k hk
          refine ev_ald0 39 dX12_bestOf_38 rfl ?_
          refine ev_getfield 42 14 16 fl_X12_43_14 (tr40 hT) rfl dX12_bestOf_39 rfl ?_
          refine tj_iconst 43 dX12_bestOf_42 rfl ?_
          refine ev_ild1 44 dX12_bestOf_43 rfl ?_
          refine ev_ild2 45 dX12_bestOf_44 rfl ?_
          refine tc_S2 48 dX12_bestOf_45 lks_X12_110 rfl (by first | decide | omega) (Nat.le_of_ble_eq_true rfl) c_X12_at ?_
          refine tj_imul 49 dX12_bestOf_48 rfl ?_
          refine ev_ild4 51 dX12_bestOf_49 rfl ?_
          refine tj_iadd 52 dX12_bestOf_51 rfl ?_
          refine tv_iald 53 (tr56 hT) (((3 * (20 * s + c)) + k)) (by omega) (by omega) (by omega) dX12_bestOf_52 rfl ?_
          refine ev_ist5 55 dX12_bestOf_53 rfl (by decide) rfl ?_
          refine ev_ild5 57 dX12_bestOf_55 rfl ?_
          refine ev_ild3 58 dX12_bestOf_57 rfl ?_
          refine tj_icmp_le 66 61 dX12_bestOf_58 (by decide) rfl (by first | exact TR.rng hT _ _ _ | exact R31_of _ | exact bi_R _ | (constructor <;> omega)) (by first | exact TR.rng hT _ _ _ | exact R31_of _ | exact bi_R _ | (constructor <;> omega)) (fun c58 => ?_) (fun c58 => ?_)
          · skip
            refine ev_ild3 67 dX12_bestOf_66 rfl ?_
            refine ev_ist3 68 dX12_bestOf_67 rfl (by decide) rfl ?_
            refine tj_inc4 71 dX12_bestOf_68 rfl (by decide) rfl ?_
            refine ev_goto 23 dX12_bestOf_71 (by decide) ?_
            exact ih23 (k + 1) _ _ _ (by omega) (by first | omega | assumption | omega) (by first | rfl | omega | (first | (simp [bsT, c10]; done) | (simp only [bsT]; split <;> omega))) (by first | rfl | omega | (first | (simp [bsT, c10]; done) | (simp only [bsT]; split <;> omega)))
          · skip
            refine ev_ild5 63 dX12_bestOf_61 rfl ?_
            refine ev_goto 67 dX12_bestOf_63 (by decide) ?_
            refine ev_ist3 68 dX12_bestOf_67 rfl (by decide) rfl ?_
            refine tj_inc4 71 dX12_bestOf_68 rfl (by decide) rfl ?_
            refine ev_goto 23 dX12_bestOf_71 (by decide) ?_
            exact ih23 (k + 1) _ _ _ (by omega) (by first | omega | assumption | omega) (by first | rfl | omega | (first | (simp [bsT, c10]; done) | (simp only [bsT]; split <;> omega))) (by first | rfl | omega | (first | (simp [bsT, c10]; done) | (simp only [bsT]; split <;> omega)))
    exact lp23 _ (0) _ _ _ (Nat.lt_succ_self _) (by first | omega | assumption | omega) (by first | rfl | omega | (first | (simp [bsT, c10]; done) | (simp only [bsT]; split <;> omega))) (by first | rfl | omega | (first | (simp [bsT, c10]; done) | (simp only [bsT]; split <;> omega)))
