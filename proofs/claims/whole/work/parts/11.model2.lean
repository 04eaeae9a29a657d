/-! THE REFERENCE: credits, formulas, seats -/
set_option maxRecDepth 100000 in
set_option maxHeartbeats 4000000 in
theorem c_X12_hasPassed {g : Gt} {α : AL} {ν : Nat → Nat → Bool} {X : XM} {h : AH} (hT : TR g α ν X h) {O : XM} (hO : WO O) (hM : RM O X) {s : Nat} (hs : (s : Int) < nS O) {c : Nat} (hc : c < 20) : Pr g M_X12_hasPassed 2 [.ref (α 40 0), .int (J (s : Int)), .int (J (c : Int))] h (some (.int (J (bi (psd O s c))))) := by
  refine pr_of rfl rfl (ls := [some (.ref (α 40 0)), some (.int (J (s : Int))), some (.int (J (c : Int)))]) rfl (Nat.le_of_ble_eq_true rfl) ?_
  show Ev g M_X12_hasPassed 2 0 [some (.ref (α 40 0)), some (.int (J (s : Int))), some (.int (J (c : Int)))] [] h 0 0 (PQ (some (.int (J (bi (psd O s c))))) h)
  have q0 := rm_nC hM
  have q1 := wo_nC hO
  have q2 := rm_nS hM
  have q3 := wo_nS hO
  have q4 := wo_bst hO s c hs hc
  refine ev_ald0 1 dX12_hasPassed_0 rfl ?_
  refine ev_ild1 2 dX12_hasPassed_1 rfl ?_
  refine ev_ild2 3 dX12_hasPassed_2 rfl ?_
  refine tc_V2 6 14 dX12_hasPassed_3 lkv_X12_114 (tr40 hT) rfl rfl (by first | decide | omega) (Nat.le_of_ble_eq_true rfl) (c_X12_bestOf hT hO hM (by omega) (by omega)) ?_
  refine tj_bipush 8 dX12_hasPassed_6 (by decide) rfl ?_
  refine tj_icmp_lt 15 11 dX12_hasPassed_8 (by decide) rfl (by first | exact TR.rng hT _ _ _ | exact R31_of _ | exact bi_R _ | (constructor <;> omega)) (by first | exact TR.rng hT _ _ _ | exact R31_of _ | exact bi_R _ | (constructor <;> omega)) (fun c8 => ?_) (fun c8 => ?_)
  · skip
    refine tj_iconst 16 dX12_hasPassed_15 rfl ?_
    exact tz_ret (by first | rfl | omega | exact bi_dt (by omega) | exact bi_df (by omega) | (skip)) rfl dX12_hasPassed_16
  · skip
    refine tj_iconst 12 dX12_hasPassed_11 rfl ?_
    refine ev_goto 16 dX12_hasPassed_12 (by decide) ?_
    exact tz_ret (by first | rfl | omega | exact bi_dt (by omega) | exact bi_df (by omega) | (skip)) rfl dX12_hasPassed_16
set_option maxRecDepth 100000 in
set_option maxHeartbeats 4000000 in
theorem c_X12_earnedOf {g : Gt} {α : AL} {ν : Nat → Nat → Bool} {X : XM} {h : AH} (hT : TR g α ν X h) {O : XM} (hO : WO O) (hM : RM O X) {s : Nat} (hs : (s : Int) < nS O) : Pr g M_X12_earnedOf 3 [.ref (α 40 0), .int (J (s : Int))] h (some (.int (J (ernd O s)))) := by
  refine pr_of rfl rfl (ls := [some (.ref (α 40 0)), some (.int (J (s : Int))), none, none]) rfl (Nat.le_of_ble_eq_true rfl) ?_
  show Ev g M_X12_earnedOf 3 0 [some (.ref (α 40 0)), some (.int (J (s : Int))), none, none] [] h 0 0 (PQ (some (.int (J (ernd O s)))) h)
  have q0 := rm_nC hM
  have q1 := wo_nC hO
  have q2 := rm_nS hM
  have q3 := wo_nS hO
  refine tj_iconst 1 dX12_earnedOf_0 rfl ?_
  refine ev_ist2 2 dX12_earnedOf_1 rfl (by decide) rfl ?_
  refine tj_iconst 3 dX12_earnedOf_2 rfl ?_
  refine ev_ist3 4 dX12_earnedOf_3 rfl (by decide) rfl ?_
  have lp4 : ∀ (n4 : Nat) (c : Nat) (z2 : Int) (z3 : Int) , 20 - c < n4 → ((c : Int) ≤ nC O) → z2 = crS O (psd O s) c → z3 = (c : Int) → Ev g M_X12_earnedOf 3 4 [some (.ref (α 40 0)), some (.int (J (s : Int))), some (.int (J z2)), some (.int (J z3))] [] h 0 0 (PQ (some (.int (J (ernd O s)))) h) := by
    intro n4
    induction n4 with
    | zero => intro c z2 z3 hm; exact absurd hm (Nat.not_lt_zero _)
    | succ n4 ih4 =>
      intro c z2 z3 hm4 hc e2 e3
      subst e2
      subst e3
      refine ev_ild3 5 dX12_earnedOf_4 rfl ?_
      refine ev_ald0 6 dX12_earnedOf_5 rfl ?_
      refine ev_getfield 9 14 3 fl_X12_93_14 (tr40 hT) rfl dX12_earnedOf_6 rfl ?_
      refine tj_icmp_ge 40 12 dX12_earnedOf_9 (by decide) rfl (by first | exact TR.rng hT _ _ _ | exact R31_of _ | exact bi_R _ | (constructor <;> omega)) (by first | exact TR.rng hT _ _ _ | exact R31_of _ | exact bi_R _ | (constructor <;> omega)) (fun c9 => ?_) (fun c9 => ?_)
      · skip
        refine ev_ild2 41 dX12_earnedOf_40 rfl ?_
        exact ev_ireturn (pq_i (by first | rfl | omega | exact bi_dt (by omega) | exact bi_df (by omega) | (rw [show c = (nC O).toNat by omega]; rfl))) rfl dX12_earnedOf_41
      · skip
        have q4 := rm_crd hM c (by omega)
        have q5 := crS_0 hO (psd O s) c (by omega)
        have q6 := wo_crd hO c (by omega)
        refine ev_ild2 13 dX12_earnedOf_12 rfl ?_
        refine ev_ald0 14 dX12_earnedOf_13 rfl ?_
        refine ev_ild1 15 dX12_earnedOf_14 rfl ?_
        refine ev_ild3 16 dX12_earnedOf_15 rfl ?_
        refine tc_V2 19 14 dX12_earnedOf_16 lkv_X12_117 (tr40 hT) rfl rfl (by first | decide | omega) (Nat.le_of_ble_eq_true rfl) (c_X12_hasPassed hT hO hM (by omega) (by omega)) ?_
        refine tb_if_eq 31 22 dX12_earnedOf_19 (by decide) rfl (fun c19 => ?_) (fun c19 => ?_)
        · skip
          refine tj_iconst 32 dX12_earnedOf_31 rfl ?_
          refine tj_iadd 33 dX12_earnedOf_32 rfl ?_
          refine ev_ist2 34 dX12_earnedOf_33 rfl (by decide) rfl ?_
          refine tj_inc3 37 dX12_earnedOf_34 rfl (by decide) rfl ?_
          refine ev_goto 4 dX12_earnedOf_37 (by decide) ?_
          exact ih4 (c + 1) _ _ (by omega) (by first | omega | assumption | omega) (by first | rfl | omega | (simp [crS_s, c19]; try omega)) (by first | rfl | omega | (simp [crS_s, c19]; try omega))
        · skip
          refine ev_ald0 23 dX12_earnedOf_22 rfl ?_
          refine ev_getfield 26 14 4 fl_X12_9_14 (tr40 hT) rfl dX12_earnedOf_23 rfl ?_
          refine ev_ild3 27 dX12_earnedOf_26 rfl ?_
          refine tv_iald 28 (tr44 hT) (c) (by omega) (by omega) (by omega) dX12_earnedOf_27 rfl ?_
          refine ev_goto 32 dX12_earnedOf_28 (by decide) ?_
          refine tj_iadd 33 dX12_earnedOf_32 rfl ?_
          refine ev_ist2 34 dX12_earnedOf_33 rfl (by decide) rfl ?_
          refine tj_inc3 37 dX12_earnedOf_34 rfl (by decide) rfl ?_
          refine ev_goto 4 dX12_earnedOf_37 (by decide) ?_
          exact ih4 (c + 1) _ _ (by omega) (by first | omega | assumption | omega) (by first | rfl | omega | (simp [crS_s, c19]; try omega)) (by first | rfl | omega | (simp [crS_s, c19]; try omega))
  exact lp4 _ (0) _ _ (Nat.lt_succ_self _) (by first | omega | assumption | omega) (by first | rfl | omega | (simp [crS_s, c19]; try omega)) (by first | rfl | omega | (simp [crS_s, c19]; try omega))
set_option maxRecDepth 100000 in
set_option maxHeartbeats 4000000 in
theorem c_X12_creditsOf {g : Gt} {α : AL} {ν : Nat → Nat → Bool} {X : XM} {h : AH} (hT : TR g α ν X h) {O : XM} (hO : WO O) (hM : RM O X) {z : Int} {f : Nat → Int} (hz : bitsE z f) : Pr g M_X12_creditsOf 1 [.ref (α 40 0), .int (J z)] h (some (.int (J (crS O (fun c => decide (f c ≠ 0)) (nC O).toNat)))) := by
  refine pr_of rfl rfl (ls := [some (.ref (α 40 0)), some (.int (J z)), none, none]) rfl (Nat.le_of_ble_eq_true rfl) ?_
  show Ev g M_X12_creditsOf 1 0 [some (.ref (α 40 0)), some (.int (J z)), none, none] [] h 0 0 (PQ (some (.int (J (crS O (fun c => decide (f c ≠ 0)) (nC O).toNat)))) h)
  have q0 := rm_nC hM
  have q1 := wo_nC hO
  have q2 := rm_nS hM
  have q3 := wo_nS hO
  refine tj_iconst 1 dX12_creditsOf_0 rfl ?_
  refine ev_ist2 2 dX12_creditsOf_1 rfl (by decide) rfl ?_
  refine tj_iconst 3 dX12_creditsOf_2 rfl ?_
  refine ev_ist3 4 dX12_creditsOf_3 rfl (by decide) rfl ?_
  have lp4 : ∀ (n4 : Nat) (c : Nat) (z2 : Int) (z3 : Int) , 20 - c < n4 → ((c : Int) ≤ nC O) → z2 = crS O (fun c => decide (f c ≠ 0)) c → z3 = (c : Int) → Ev g M_X12_creditsOf 1 4 [some (.ref (α 40 0)), some (.int (J z)), some (.int (J z2)), some (.int (J z3))] [] h 0 0 (PQ (some (.int (J (crS O (fun c => decide (f c ≠ 0)) (nC O).toNat)))) h) := by
    intro n4
    induction n4 with
    | zero => intro c z2 z3 hm; exact absurd hm (Nat.not_lt_zero _)
    | succ n4 ih4 =>
      intro c z2 z3 hm4 hc e2 e3
      subst e2
      subst e3
      refine ev_ild3 5 dX12_creditsOf_4 rfl ?_
      refine ev_ald0 6 dX12_creditsOf_5 rfl ?_
      refine ev_getfield 9 14 3 fl_X12_93_14 (tr40 hT) rfl dX12_creditsOf_6 rfl ?_
      refine tj_icmp_ge 39 12 dX12_creditsOf_9 (by decide) rfl (by first | exact TR.rng hT _ _ _ | exact R31_of _ | exact bi_R _ | (constructor <;> omega)) (by first | exact TR.rng hT _ _ _ | exact R31_of _ | exact bi_R _ | (constructor <;> omega)) (fun c9 => ?_) (fun c9 => ?_)
      · skip
        refine ev_ild2 40 dX12_creditsOf_39 rfl ?_
        exact ev_ireturn (pq_i (by first | rfl | omega | exact bi_dt (by omega) | exact bi_df (by omega) | (rw [show c = (nC O).toNat by omega]))) rfl dX12_creditsOf_40
      · skip
        have q4 := rm_crd hM c (by omega)
        refine ev_ild2 13 dX12_creditsOf_12 rfl ?_
        refine ev_ild1 14 dX12_creditsOf_13 rfl ?_
        refine ev_ild3 15 dX12_creditsOf_14 rfl ?_
        refine tc_S2 18 dX12_creditsOf_15 lks_X12_106 rfl (by first | decide | omega) (Nat.le_of_ble_eq_true rfl) (has_of hz (by omega) rfl : Pr g M_X12_has 0 _ h (some (.int (J (bi (decide (f c ≠ 0))))))) ?_
        refine tb_if_eq 30 21 dX12_creditsOf_18 (by decide) rfl (fun c18 => ?_) (fun c18 => ?_)
        · skip
          refine tj_iconst 31 dX12_creditsOf_30 rfl ?_
          refine tj_iadd 32 dX12_creditsOf_31 rfl ?_
          refine ev_ist2 33 dX12_creditsOf_32 rfl (by decide) rfl ?_
          refine tj_inc3 36 dX12_creditsOf_33 rfl (by decide) rfl ?_
          refine ev_goto 4 dX12_creditsOf_36 (by decide) ?_
          exact ih4 (c + 1) _ _ (by omega) (by first | omega | assumption | omega) (by first | rfl | omega | (simp only [crS_s, c18]; simp; try omega)) (by first | rfl | omega | (simp only [crS_s, c18]; simp; try omega))
        · skip
          refine ev_ald0 22 dX12_creditsOf_21 rfl ?_
          refine ev_getfield 25 14 4 fl_X12_9_14 (tr40 hT) rfl dX12_creditsOf_22 rfl ?_
          refine ev_ild3 26 dX12_creditsOf_25 rfl ?_
          refine tv_iald 27 (tr44 hT) (c) (by omega) (by omega) (by omega) dX12_creditsOf_26 rfl ?_
          refine ev_goto 31 dX12_creditsOf_27 (by decide) ?_
          refine tj_iadd 32 dX12_creditsOf_31 rfl ?_
          refine ev_ist2 33 dX12_creditsOf_32 rfl (by decide) rfl ?_
          refine tj_inc3 36 dX12_creditsOf_33 rfl (by decide) rfl ?_
          refine ev_goto 4 dX12_creditsOf_36 (by decide) ?_
          exact ih4 (c + 1) _ _ (by omega) (by first | omega | assumption | omega) (by first | rfl | omega | (simp only [crS_s, c18]; simp; try omega)) (by first | rfl | omega | (simp only [crS_s, c18]; simp; try omega))
  exact lp4 _ (0) _ _ (Nat.lt_succ_self _) (by first | omega | assumption | omega) (by first | rfl | omega | (simp only [crS_s, c18]; simp; try omega)) (by first | rfl | omega | (simp only [crS_s, c18]; simp; try omega))
theorem kept_s (O : XM) (c : Nat) (m : Int) (k : Nat) : kept O c m (k + 1) = kept O c m k + (if (k : Int) ≠ m ∧ enrM O c k < O 13 c k then O 13 c k - enrM O c k else 0) := rfl
theorem kept_0 {O : XM} (hO : WO O) {c : Nat} (hc : (c : Int) < nC O) (m : Int) : ∀ k : Nat, k ≤ 4 → 0 ≤ kept O c m k ∧ kept O c m k ≤ 12 * k
  | 0, _ => ⟨Int.le_refl 0, Int.le_refl 0⟩
  | k + 1, hk => by
    have h1 := kept_0 hO hc m k (by omega)
    have h2 := wo_res hO c k hc (by omega)
    have h3 : 0 ≤ enrM O c k := (cnt_0 _ _).1
    rw [kept_s]
    split <;> omega
theorem enr_0 {O : XM} (hO : WO O) (c : Nat) : 0 ≤ enr O c ∧ enr O c ≤ 16 := by
  have h1 := cnt_0 (fun s => tak O s c) (nS O).toNat
  have h2 := wo_nS hO
  show 0 ≤ cnt (fun s => tak O s c) (nS O).toNat ∧ cnt (fun s => tak O s c) (nS O).toNat ≤ 16
  omega
theorem enrM_0 {O : XM} (hO : WO O) (c : Nat) (m : Int) : 0 ≤ enrM O c m ∧ enrM O c m ≤ 16 := by
  have h1 := cnt_0 (fun s => tak O s c && decide (O 4 s 0 = m)) (nS O).toNat
  have h2 := wo_nS hO
  show 0 ≤ cnt (fun s => tak O s c && decide (O 4 s 0 = m)) (nS O).toNat ∧ cnt (fun s => tak O s c && decide (O 4 s 0 = m)) (nS O).toNat ≤ 16
  omega
set_option maxRecDepth 100000 in
set_option maxHeartbeats 4000000 in
theorem c_X12_freeFor {g : Gt} {α : AL} {ν : Nat → Nat → Bool} {X : XM} {h : AH} (hT : TR g α ν X h) {O : XM} (hO : WO O) (hM : RM O X) {c : Nat} (hc : (c : Int) < nC O) {m : Int} (hm : R31 m) : Pr g M_X12_freeFor 2 [.ref (α 40 0), .int (J (c : Int)), .int (J m)] h (some (.int (J (free O c m)))) := by
  refine pr_of rfl rfl (ls := [some (.ref (α 40 0)), some (.int (J (c : Int))), some (.int (J m)), none, none, none]) rfl (Nat.le_of_ble_eq_true rfl) ?_
  show Ev g M_X12_freeFor 2 0 [some (.ref (α 40 0)), some (.int (J (c : Int))), some (.int (J m)), none, none, none] [] h 0 0 (PQ (some (.int (J (free O c m)))) h)
  have q0 := rm_nC hM
  have q1 := wo_nC hO
  have q2 := rm_nS hM
  have q3 := wo_nS hO
  have q4 := enr_0 hO c
  have q5 := rm_sea hM c hc
  have q6 := wo_sea hO c hc
  have q7 := rm_day hM
  have q8 := wo_day hO
  refine ev_ald0 1 dX12_freeFor_0 rfl ?_
  refine ev_getfield 4 14 5 fl_X12_13_14 (tr40 hT) rfl dX12_freeFor_1 rfl ?_
  refine ev_ild1 5 dX12_freeFor_4 rfl ?_
  refine tv_iald 6 (tr45 hT) (c) (by omega) (by omega) (by omega) dX12_freeFor_5 rfl ?_
  refine ev_ald0 7 dX12_freeFor_6 rfl ?_
  refine ev_ild1 8 dX12_freeFor_7 rfl ?_
  refine tc_V1 11 14 dX12_freeFor_8 lkv_X12_161 (tr40 hT) rfl rfl (by first | decide | omega) (Nat.le_of_ble_eq_true rfl) (c_X12_enrolledIn hT hO hM (by omega)) ?_
  refine tj_isub 12 dX12_freeFor_11 rfl ?_
  refine ev_ist3 13 dX12_freeFor_12 rfl (by decide) rfl ?_
  refine tj_iconst 14 dX12_freeFor_13 rfl ?_
  refine ev_ist4 16 dX12_freeFor_14 rfl (by decide) rfl ?_
  have lp16 : ∀ (n16 : Nat) (k : Nat) (z3 : Int) (z4 : Int) (o5 : Option Value), 5 - k < n16 → (k ≤ 4) → (k = 0 ∨ O 0 0 5 ≤ 3) → z3 = O 12 c 2 - enr O c - kept O c m k → z4 = (k : Int) → Ev g M_X12_freeFor 2 16 [some (.ref (α 40 0)), some (.int (J (c : Int))), some (.int (J m)), some (.int (J z3)), some (.int (J z4)), o5] [] h 0 0 (PQ (some (.int (J (free O c m)))) h) := by
    intro n16
    induction n16 with
    | zero => intro k z3 z4 o5 hm; exact absurd hm (Nat.not_lt_zero _)
    | succ n16 ih16 =>
      intro k z3 z4 o5 hm16 hk hd e3 e4
      subst e3
      subst e4
      have k1 := kept_0 hO hc m k hk
      have k2 := kept_s O c m k
      have k3 := enrM_0 hO c k
      refine ev_ild4 18 dX12_freeFor_16 rfl ?_
      refine tj_iconst 19 dX12_freeFor_18 rfl ?_
      refine tj_icmp_ge 77 22 dX12_freeFor_19 (by decide) rfl (by first | exact TR.rng hT _ _ _ | exact R31_of _ | exact bi_R _ | (constructor <;> omega)) (by first | exact TR.rng hT _ _ _ | exact R31_of _ | exact bi_R _ | (constructor <;> omega)) (fun c19 => ?_) (fun c19 => ?_)
      · skip
        refine ev_ild3 78 dX12_freeFor_77 rfl ?_
        refine tj_if_ge 85 81 dX12_freeFor_78 (by decide) rfl (by first | exact TR.rng hT _ _ _ | exact R31_of _ | exact bi_R _ | (constructor <;> omega)) (fun c78 => ?_) (fun c78 => ?_)
        · skip
          refine ev_ild3 86 dX12_freeFor_85 rfl ?_
          exact ev_ireturn (pq_i (by first | rfl | omega | exact bi_dt (by omega) | exact bi_df (by omega) | ((have e : free0 O c m = O 12 c 2 - enr O c - kept O c m k := by (unfold free0; rcases (show (k = 4 ∧ O 0 0 5 ≤ 3) ∨ (k = 0 ∧ ¬ O 0 0 5 ≤ 3) by omega) with ⟨e, e2⟩ | ⟨e, e2⟩; (subst e; rw [if_pos e2]); (subst e; rw [if_neg e2]; rfl))); (unfold free; rw [e]; split <;> omega)))) rfl dX12_freeFor_86
        · skip
          refine tj_iconst 82 dX12_freeFor_81 rfl ?_
          refine ev_goto 86 dX12_freeFor_82 (by decide) ?_
          exact ev_ireturn (pq_i (by first | rfl | omega | exact bi_dt (by omega) | exact bi_df (by omega) | ((have e : free0 O c m = O 12 c 2 - enr O c - kept O c m k := by (unfold free0; rcases (show (k = 4 ∧ O 0 0 5 ≤ 3) ∨ (k = 0 ∧ ¬ O 0 0 5 ≤ 3) by omega) with ⟨e, e2⟩ | ⟨e, e2⟩; (subst e; rw [if_pos e2]); (subst e; rw [if_neg e2]; rfl))); (unfold free; rw [e]; split <;> omega)))) rfl dX12_freeFor_86
      · skip
        refine ev_ald0 23 dX12_freeFor_22 rfl ?_
        refine ev_getfield 26 14 1 fl_X12_164_14 (tr40 hT) rfl dX12_freeFor_23 rfl ?_
        refine tj_iconst 27 dX12_freeFor_26 rfl ?_
        refine tj_icmp_gt 77 30 dX12_freeFor_27 (by decide) rfl (by first | exact TR.rng hT _ _ _ | exact R31_of _ | exact bi_R _ | (constructor <;> omega)) (by first | exact TR.rng hT _ _ _ | exact R31_of _ | exact bi_R _ | (constructor <;> omega)) (fun c27 => ?_) (fun c27 => ?_)
        · skip
          refine ev_ild3 78 dX12_freeFor_77 rfl ?_
          refine tj_if_ge 85 81 dX12_freeFor_78 (by decide) rfl (by first | exact TR.rng hT _ _ _ | exact R31_of _ | exact bi_R _ | (constructor <;> omega)) (fun c78 => ?_) (fun c78 => ?_)
          · skip
            refine ev_ild3 86 dX12_freeFor_85 rfl ?_
            exact ev_ireturn (pq_i (by first | rfl | omega | exact bi_dt (by omega) | exact bi_df (by omega) | ((have e : free0 O c m = O 12 c 2 - enr O c - kept O c m k := by (unfold free0; rcases (show (k = 4 ∧ O 0 0 5 ≤ 3) ∨ (k = 0 ∧ ¬ O 0 0 5 ≤ 3) by omega) with ⟨e, e2⟩ | ⟨e, e2⟩; (subst e; rw [if_pos e2]); (subst e; rw [if_neg e2]; rfl))); (unfold free; rw [e]; split <;> omega)))) rfl dX12_freeFor_86
          · skip
            refine tj_iconst 82 dX12_freeFor_81 rfl ?_
            refine ev_goto 86 dX12_freeFor_82 (by decide) ?_
            exact ev_ireturn (pq_i (by first | rfl | omega | exact bi_dt (by omega) | exact bi_df (by omega) | ((have e : free0 O c m = O 12 c 2 - enr O c - kept O c m k := by (unfold free0; rcases (show (k = 4 ∧ O 0 0 5 ≤ 3) ∨ (k = 0 ∧ ¬ O 0 0 5 ≤ 3) by omega) with ⟨e, e2⟩ | ⟨e, e2⟩; (subst e; rw [if_pos e2]); (subst e; rw [if_neg e2]; rfl))); (unfold free; rw [e]; split <;> omega)))) rfl dX12_freeFor_86
        · skip
          have k4 := rm_res hM c k hc (by omega)
          have k5 := wo_res hO c k hc (by omega)
          refine ev_ald0 31 dX12_freeFor_30 rfl ?_
          refine ev_getfield 34 14 6 fl_X12_16_14 (tr40 hT) rfl dX12_freeFor_31 rfl ?_
          refine tj_iconst 35 dX12_freeFor_34 rfl ?_
          refine ev_ild1 36 dX12_freeFor_35 rfl ?_
          refine tj_imul 37 dX12_freeFor_36 rfl ?_
          refine ev_ild4 39 dX12_freeFor_37 rfl ?_
          refine tj_iadd 40 dX12_freeFor_39 rfl ?_
          refine tv_iald 41 (tr46 hT) (((4 * c) + k)) (by omega) (by omega) (by omega) dX12_freeFor_40 rfl ?_
          refine ev_ald0 42 dX12_freeFor_41 rfl ?_
          refine ev_ild1 43 dX12_freeFor_42 rfl ?_
          refine ev_ild4 45 dX12_freeFor_43 rfl ?_
          refine tc_V2 48 14 dX12_freeFor_45 lkv_X12_167 (tr40 hT) rfl rfl (by first | decide | omega) (Nat.le_of_ble_eq_true rfl) (c_X12_enrolledOf hT hO hM (by omega) (by first | exact TR.rng hT _ _ _ | exact R31_of _ | exact bi_R _ | (constructor <;> omega))) ?_
          refine tj_isub 49 dX12_freeFor_48 rfl ?_
          refine ev_ist5 51 dX12_freeFor_49 rfl (by decide) rfl ?_
          refine ev_ild3 52 dX12_freeFor_51 rfl ?_
          refine ev_ild4 54 dX12_freeFor_52 rfl ?_
          refine ev_ild2 55 dX12_freeFor_54 rfl ?_
          refine tj_icmp_eq 68 58 dX12_freeFor_55 (by decide) rfl (by first | exact TR.rng hT _ _ _ | exact R31_of _ | exact bi_R _ | (constructor <;> omega)) (by first | exact TR.rng hT _ _ _ | exact R31_of _ | exact bi_R _ | (constructor <;> omega)) (fun c55 => ?_) (fun c55 => ?_)
          · skip
            refine tj_iconst 69 dX12_freeFor_68 rfl ?_
            refine tj_isub 70 dX12_freeFor_69 rfl ?_
            refine ev_ist3 71 dX12_freeFor_70 rfl (by decide) rfl ?_
            refine tj_inc4 74 dX12_freeFor_71 rfl (by decide) rfl ?_
            refine ev_goto 16 dX12_freeFor_74 (by decide) ?_
            exact ih16 (k + 1) _ _ _ (by omega) (by first | omega | assumption | omega) (by first | omega | assumption | omega) (by first | rfl | omega | (first | (simp [kept]; omega) | (rw [k2, if_pos ⟨by omega, by omega⟩]; omega) | (rw [k2, if_neg (by omega)]; omega))) (by first | rfl | omega | (first | (simp [kept]; omega) | (rw [k2, if_pos ⟨by omega, by omega⟩]; omega) | (rw [k2, if_neg (by omega)]; omega)))
          · skip
            refine ev_ild5 60 dX12_freeFor_58 rfl ?_
            refine tj_if_le 68 63 dX12_freeFor_60 (by decide) rfl (by first | exact TR.rng hT _ _ _ | exact R31_of _ | exact bi_R _ | (constructor <;> omega)) (fun c60 => ?_) (fun c60 => ?_)
            · skip
              refine tj_iconst 69 dX12_freeFor_68 rfl ?_
              refine tj_isub 70 dX12_freeFor_69 rfl ?_
              refine ev_ist3 71 dX12_freeFor_70 rfl (by decide) rfl ?_
              refine tj_inc4 74 dX12_freeFor_71 rfl (by decide) rfl ?_
              refine ev_goto 16 dX12_freeFor_74 (by decide) ?_
              exact ih16 (k + 1) _ _ _ (by omega) (by first | omega | assumption | omega) (by first | omega | assumption | omega) (by first | rfl | omega | (first | (simp [kept]; omega) | (rw [k2, if_pos ⟨by omega, by omega⟩]; omega) | (rw [k2, if_neg (by omega)]; omega))) (by first | rfl | omega | (first | (simp [kept]; omega) | (rw [k2, if_pos ⟨by omega, by omega⟩]; omega) | (rw [k2, if_neg (by omega)]; omega)))
            · skip
              refine ev_ild5 65 dX12_freeFor_63 rfl ?_
              refine ev_goto 69 dX12_freeFor_65 (by decide) ?_
              refine tj_isub 70 dX12_freeFor_69 rfl ?_
              refine ev_ist3 71 dX12_freeFor_70 rfl (by decide) rfl ?_
              refine tj_inc4 74 dX12_freeFor_71 rfl (by decide) rfl ?_
              refine ev_goto 16 dX12_freeFor_74 (by decide) ?_
              exact ih16 (k + 1) _ _ _ (by omega) (by first | omega | assumption | omega) (by first | omega | assumption | omega) (by first | rfl | omega | (first | (simp [kept]; omega) | (rw [k2, if_pos ⟨by omega, by omega⟩]; omega) | (rw [k2, if_neg (by omega)]; omega))) (by first | rfl | omega | (first | (simp [kept]; omega) | (rw [k2, if_pos ⟨by omega, by omega⟩]; omega) | (rw [k2, if_neg (by omega)]; omega)))
  exact lp16 _ (0) _ _ _ (Nat.lt_succ_self _) (by first | omega | assumption | omega) (by first | omega | assumption | omega) (by first | rfl | omega | (first | (simp [kept]; omega) | (rw [k2, if_pos ⟨by omega, by omega⟩]; omega) | (rw [k2, if_neg (by omega)]; omega))) (by first | rfl | omega | (first | (simp [kept]; omega) | (rw [k2, if_pos ⟨by omega, by omega⟩]; omega) | (rw [k2, if_neg (by omega)]; omega)))
set_option maxRecDepth 100000 in
set_option maxHeartbeats 4000000 in
theorem c_X12_fits {g : Gt} {α : AL} {ν : Nat → Nat → Bool} {X : XM} {h : AH} (hT : TR g α ν X h) {O : XM} (hO : WO O) (hM : RM O X) {s : Nat} (hs : (s : Int) < nS O) {c : Nat} (hc : (c : Int) < nC O) : Pr g M_X12_fits 2 [.ref (α 40 0), .int (J (s : Int)), .int (J (c : Int))] h (some (.int (J (bi (fitsL O s c))))) := by
  refine pr_of rfl rfl (ls := [some (.ref (α 40 0)), some (.int (J (s : Int))), some (.int (J (c : Int)))]) rfl (Nat.le_of_ble_eq_true rfl) ?_
  show Ev g M_X12_fits 2 0 [some (.ref (α 40 0)), some (.int (J (s : Int))), some (.int (J (c : Int)))] [] h 0 0 (PQ (some (.int (J (bi (fitsL O s c))))) h)
  have q0 := rm_nC hM
  have q1 := wo_nC hO
  have q2 := rm_nS hM
  have q3 := wo_nS hO
  have q4 := rm_tak hM s hs
  have q5 := rm_crd hM c hc
  have q6 := wo_crd hO c hc
  have q7 := crS_0 hO (fun c => decide (O 5 s c ≠ 0)) (nC O).toNat (by omega)
  have q8 : load O s = crS O (fun c => decide (O 5 s c ≠ 0)) (nC O).toNat := rfl
  refine ev_ald0 1 dX12_fits_0 rfl ?_
  refine ev_ald0 2 dX12_fits_1 rfl ?_
  refine ev_getfield 5 14 12 fl_X12_31_14 (tr40 hT) rfl dX12_fits_2 rfl ?_
  refine ev_ild1 6 dX12_fits_5 rfl ?_
  refine tv_iald 7 (tr52 hT) (s) (by omega) (by omega) (by omega) dX12_fits_6 rfl ?_
  refine tc_V1 10 14 dX12_fits_7 lkv_X12_123 (tr40 hT) rfl rfl (by first | decide | omega) (Nat.le_of_ble_eq_true rfl) (c_X12_creditsOf hT hO hM (by assumption)) ?_
  refine ev_ald0 11 dX12_fits_10 rfl ?_
  refine ev_getfield 14 14 4 fl_X12_9_14 (tr40 hT) rfl dX12_fits_11 rfl ?_
  refine ev_ild2 15 dX12_fits_14 rfl ?_
  refine tv_iald 16 (tr44 hT) (c) (by omega) (by omega) (by omega) dX12_fits_15 rfl ?_
  refine tj_iadd 17 dX12_fits_16 rfl ?_
  refine tj_bipush 19 dX12_fits_17 (by decide) rfl ?_
  refine tj_icmp_gt 26 22 dX12_fits_19 (by decide) rfl (by first | exact TR.rng hT _ _ _ | exact R31_of _ | exact bi_R _ | (constructor <;> omega)) (by first | exact TR.rng hT _ _ _ | exact R31_of _ | exact bi_R _ | (constructor <;> omega)) (fun c19 => ?_) (fun c19 => ?_)
  · skip
    refine tj_iconst 27 dX12_fits_26 rfl ?_
    exact tz_ret (by first | rfl | omega | exact bi_dt (by omega) | exact bi_df (by omega) | (first | exact bi_dt (by rw [q8, ← q5]; omega) | exact bi_df (by rw [q8, ← q5]; omega))) rfl dX12_fits_27
  · skip
    refine tj_iconst 23 dX12_fits_22 rfl ?_
    refine ev_goto 27 dX12_fits_23 (by decide) ?_
    exact tz_ret (by first | rfl | omega | exact bi_dt (by omega) | exact bi_df (by omega) | (first | exact bi_dt (by rw [q8, ← q5]; omega) | exact bi_df (by rw [q8, ← q5]; omega))) rfl dX12_fits_27
theorem plc_hit {O : XM} {c s k : Nat} (h1 : plc O c s k = -1) (h2 : O 2 (4 + c) (k + 1) = s) : ∀ n : Nat, k < n → plc O c s n = k
  | 0, h => absurd h (Nat.not_lt_zero _)
  | n + 1, h => by
    rcases Nat.lt_or_ge k n with q | q
    · have e := plc_hit h1 h2 n q
      show (if plc O c s n = -1 then _ else plc O c s n) = _
      rw [e, if_neg (by omega)]
    · have e : k = n := by omega
      subst e
      show (if plc O c s k = -1 then (if O 2 (4 + c) (k + 1) = s then (k : Int) else -1) else _) = _
      rw [if_pos h1, if_pos h2]
theorem plc_miss {O : XM} {c s k : Nat} (h1 : plc O c s k = -1) (h2 : ¬ O 2 (4 + c) (k + 1) = s) : plc O c s (k + 1) = -1 := by
  show (if plc O c s k = -1 then (if O 2 (4 + c) (k + 1) = s then (k : Int) else -1) else _) = _
  rw [if_pos h1, if_neg h2]
set_option maxRecDepth 100000 in
set_option maxHeartbeats 4000000 in
theorem c_X12_placeIn {g : Gt} {α : AL} {ν : Nat → Nat → Bool} {X : XM} {h : AH} (hT : TR g α ν X h) {O : XM} (hO : WO O) (hM : RM O X) {c : Nat} (hc : (c : Int) < nC O) {s : Nat} (hs : s < 17) : Pr g M_X12_placeIn 0 [.ref (α 40 0), .int (J (c : Int)), .int (J (s : Int))] h (some (.int (J (place O c s)))) := by
  refine pr_of rfl rfl (ls := [some (.ref (α 40 0)), some (.int (J (c : Int))), some (.int (J (s : Int))), none]) rfl (Nat.le_of_ble_eq_true rfl) ?_
  show Ev g M_X12_placeIn 0 0 [some (.ref (α 40 0)), some (.int (J (c : Int))), some (.int (J (s : Int))), none] [] h 0 0 (PQ (some (.int (J (place O c s)))) h)
  have q0 := rm_nC hM
  have q1 := wo_nC hO
  have q2 := rm_nS hM
  have q3 := wo_nS hO
  have q4 := rm_wN hM c hc
  have q5 := wo_wN hO c hc
  refine tj_iconst 1 dX12_placeIn_0 rfl ?_
  refine ev_ist3 2 dX12_placeIn_1 rfl (by decide) rfl ?_
  have lp2 : ∀ (n2 : Nat) (k : Nat) (z3 : Int) , 7 - k < n2 → ((k : Int) ≤ O 1 (4 + c) 2) → (plc O c s k = -1) → z3 = (k : Int) → Ev g M_X12_placeIn 0 2 [some (.ref (α 40 0)), some (.int (J (c : Int))), some (.int (J (s : Int))), some (.int (J z3))] [] h 0 0 (PQ (some (.int (J (place O c s)))) h) := by
    intro n2
    induction n2 with
    | zero => intro k z3 hm; exact absurd hm (Nat.not_lt_zero _)
    | succ n2 ih2 =>
      intro k z3 hm2 hk hp e3
      subst e3
      refine ev_ild3 3 dX12_placeIn_2 rfl ?_
      refine ev_ald0 4 dX12_placeIn_3 rfl ?_
      refine ev_getfield 7 14 8 fl_X12_22_14 (tr40 hT) rfl dX12_placeIn_4 rfl ?_
      refine ev_ild1 8 dX12_placeIn_7 rfl ?_
      refine tv_iald 9 (tr48 hT) (c) (by omega) (by omega) (by omega) dX12_placeIn_8 rfl ?_
      refine tj_icmp_ge 35 12 dX12_placeIn_9 (by decide) rfl (by first | exact TR.rng hT _ _ _ | exact R31_of _ | exact bi_R _ | (constructor <;> omega)) (by first | exact TR.rng hT _ _ _ | exact R31_of _ | exact bi_R _ | (constructor <;> omega)) (fun c9 => ?_) (fun c9 => ?_)
      · skip
        refine tj_iconst 36 dX12_placeIn_35 rfl ?_
        exact ev_ireturn (pq_i (by first | rfl | omega | exact bi_dt (by omega) | exact bi_df (by omega) | (rw [show (-1 : Int) = plc O c s k from hp.symm, show k = (O 1 (4 + c) 2).toNat by omega]; rfl))) rfl dX12_placeIn_36
      · skip
        have q6 := rm_wA hM c k hc (by omega)
        have q7 := wo_wA hO c k hc (by omega)
        refine ev_ald0 13 dX12_placeIn_12 rfl ?_
        refine ev_getfield 16 14 9 fl_X12_25_14 (tr40 hT) rfl dX12_placeIn_13 rfl ?_
        refine tj_bipush 18 dX12_placeIn_16 (by decide) rfl ?_
        refine ev_ild1 19 dX12_placeIn_18 rfl ?_
        refine tj_imul 20 dX12_placeIn_19 rfl ?_
        refine ev_ild3 21 dX12_placeIn_20 rfl ?_
        refine tj_iadd 22 dX12_placeIn_21 rfl ?_
        refine tv_iald 23 (tr49 hT) (((6 * c) + k)) (by omega) (by omega) (by omega) dX12_placeIn_22 rfl ?_
        refine ev_ild2 24 dX12_placeIn_23 rfl ?_
        refine tj_icmp_ne 29 27 dX12_placeIn_24 (by decide) rfl (by first | exact TR.rng hT _ _ _ | exact R31_of _ | exact bi_R _ | (constructor <;> omega)) (by first | exact TR.rng hT _ _ _ | exact R31_of _ | exact bi_R _ | (constructor <;> omega)) (fun c24 => ?_) (fun c24 => ?_)
        · skip
          refine tj_inc3 32 dX12_placeIn_29 rfl (by decide) rfl ?_
          refine ev_goto 2 dX12_placeIn_32 (by decide) ?_
          exact ih2 (k + 1) _ (by omega) (by first | omega | assumption | first | rfl | exact plc_miss hp (by omega)) (by first | omega | assumption | first | rfl | exact plc_miss hp (by omega)) (by first | rfl | omega | (omega))
        · skip
          refine ev_ild3 28 dX12_placeIn_27 rfl ?_
          exact ev_ireturn (pq_i (by first | rfl | omega | exact bi_dt (by omega) | exact bi_df (by omega) | (exact (plc_hit hp (by omega) _ (by omega)).symm))) rfl dX12_placeIn_28
  exact lp2 _ (0) _ (Nat.lt_succ_self _) (by first | omega | assumption | first | rfl | exact plc_miss hp (by omega)) (by first | omega | assumption | first | rfl | exact plc_miss hp (by omega)) (by first | rfl | omega | (omega))
/-- what enroll would do -/
def ltr (X : XM) (s c : Nat) : Int := if 5 < X 0 0 5 then 100 else if tak X s c = true ∨ place X c s ≠ -1 then 105 else if mayT X s c = false then 114 else if 3 ≤ X 9 s c then 97 else if fitsL X s c = false then 99 else if 0 < free X c (X 4 s 0) then 101 else if 6 ≤ X 1 (4 + c) 2 then 102 else 119
theorem free_0 {X : XM} (hO : WO X) {c : Nat} (hc : (c : Int) < nC X) (m : Int) : 0 ≤ free X c m ∧ free X c m ≤ 12 := by
  have h1 := enr_0 hO c
  have h2 := kept_0 hO hc m 4 (by omega)
  have h3 := wo_sea hO c hc
  unfold free free0
  split <;> split <;> omega
theorem plc_R (O : XM) (c s : Nat) : ∀ n : Nat, -1 ≤ plc O c s n ∧ plc O c s n < n
  | 0 => ⟨Int.le_refl _, by show (-1 : Int) < ((0 : Nat) : Int); omega⟩
  | n + 1 => by
    have := plc_R O c s n
    show -1 ≤ (if plc O c s n = -1 then (if O 2 (4 + c) (n + 1) = s then (n : Int) else -1) else plc O c s n) ∧ (if plc O c s n = -1 then (if O 2 (4 + c) (n + 1) = s then (n : Int) else -1) else plc O c s n) < ((n + 1 : Nat) : Int)
    split
    · split <;> omega
    · omega
theorem place_R {O : XM} (hO : WO O) {c : Nat} (hc : (c : Int) < nC O) (s : Nat) : -1 ≤ place O c s ∧ place O c s < 6 := by
  have h1 := plc_R O c s (O 1 (4 + c) 2).toNat
  have h2 := wo_wN hO c hc
  unfold place
  omega
theorem ltr_c (X : XM) (s c : Nat) : 0 ≤ ltr X s c ∧ ltr X s c < 128 := by
  unfold ltr
  repeat' split
  all_goals omega
