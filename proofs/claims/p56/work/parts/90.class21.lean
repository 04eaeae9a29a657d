/-! THE CLASS: the calls that audit -/
/-- what an audit changes of the class -/
def CA (X X' : XM) : Prop := ∀ kk, (kk < 17 ∨ 26 < kk) → X' kk = X kk
theorem CA.rf (X : XM) : CA X X := fun _ _ => rfl
theorem CA.tr {X Y Z : XM} (h1 : CA X Y) (h2 : CA Y Z) : CA X Z := fun kk h => (h2 kk h).trans (h1 kk h)
theorem CA.wx {ν : Nat → Nat → Bool} {X Y : XM} (h : CA X Y) (hW : WX ν X) : WX ν Y := wx_cg hW (fun k q => h k (Or.inl q))
theorem ga_mx {m : Nat} {ft : Nat → Nat → Bool} {nd : Nat → Int} {Y : XM} {v : Int} (hm : m ≤ 4) (hnd : ∀ k, k < m → 1 ≤ nd k ∧ nd k ≤ 3) (w2 : ∀ k, k < m → Y 21 0 k = nd k) (w3 : GS m ft (Y 21 0) 0 20 (Y 23 0) (Y 22 0) v) : v = mx (Rc m ft nd 0 0 20) := by
  have hmax := GS_max (nd := nd) (fill := 0) hm (show 0 ≤ 20 by omega) (fun j hj => (hnd j hj).2) (by decide) (fun j _ _ => dg_0 j) (fun j hj => by rw [w2 j hj, dg_0]; omega) w3
  have e := mx_eq hmax
  have e0 : (nf 0 : Int) = 0 := by decide
  have e2 : mx (Rc m ft nd 0 0 20) = nf 0 + v := e
  omega
theorem it_16 {O : XM} (hO : WO O) {s k : Nat} (hk : k < nsl O s) : itR O s k < 16 := by
  have q := wo_nR hO
  have := (itR_p hO hk).1
  omega
theorem load_cg {X Y : XM} (h5 : Y 5 = X 5) (h12 : Y 12 = X 12) (h1 : Y 1 = X 1) (s : Nat) : load Y s = load X s := by
  have e : tak Y s = tak X s := by funext c; unfold tak; rw [h5]
  unfold load
  rw [e, show nC Y = nC X by unfold nC; rw [h1], crS_eq h12]
set_option maxRecDepth 100000 in
set_option maxHeartbeats 4000000 in
theorem c_X11_auditsAgree {g : Gt} {α : AL} {ν : Nat → Nat → Bool} {X : XM} {h : AH} (hT : TR g α ν X h) (hW : WX ν X) {s : Nat} (hs0 : (s : Int) < nS X) : Mu g α ν M_X11_auditsAgree 7 [.ref (α 0 0), .ref (α 4 s)] h (some (.int (J (bi true)))) (fun X' => CA X X') := by
  refine mu_of rfl rfl (ls := [some (.ref (α 0 0)), some (.ref (α 4 s)), none]) rfl (Nat.le_of_ble_eq_true rfl) ?_
  show Ev g M_X11_auditsAgree 7 0 [some (.ref (α 0 0)), some (.ref (α 4 s)), none] [] h 0 0 (UQ g α ν (some (.int (J (bi true)))) (fun X' => CA X X'))
  have q1 := wo_nC hW.1
  have q3 := wo_nS hW.1
  have hs := wx_stu hW hs0
  have hl : s < 17 := by omega
  have qV := mstV_R hW.1 s false
  refine ev_ald0 1 dX11_auditsAgree_0 rfl ?_
  refine ev_getfield 4 13 8 fl_X11_41_13 (tr0 hT) rfl dX11_auditsAgree_1 rfl ?_
  refine ev_ald0 5 dX11_auditsAgree_4 rfl ?_
  refine ev_getfield 8 13 3 fl_X11_22_13 (tr0 hT) rfl dX11_auditsAgree_5 rfl ?_
  refine ev_ald1 9 dX11_auditsAgree_8 rfl ?_
  refine tj_iconst 10 dX11_auditsAgree_9 rfl ?_
  refine tmv_V3 13 3 dX11_auditsAgree_10 lkv_X11_363 (tr17 hT) rfl rfl (by first | decide | omega) (Nat.le_of_ble_eq_true rfl) (c_X0_open (b := false) hT hW hs0) (fun h X1 hT hP10 => ?_)
  obtain ⟨o1, hAU⟩ := hP10
  have hm4 := nsl_4 hW.1 s
  have hnd := fun k (hk : k < nsl X s) => ndR_R hW.1 hk
  have hit := fun k (hk : k < nsl X s) => it_16 hW.1 hk
  have hinc := fun k k2 (q : k < k2) (q2 : k2 < nsl X s) => itR_lt q q2
  have hC0 : CA X X1 := fun kk q => o1 kk (by omega) (by omega) (by omega) (by omega)
  refine ev_ald0 14 dX11_auditsAgree_13 rfl ?_
  refine ev_getfield 17 13 8 fl_X11_41_13 (tr0 hT) rfl dX11_auditsAgree_14 rfl ?_
  refine tm_V0 20 3 dX11_auditsAgree_17 lkv_X11_370 (tr17 hT) rfl rfl (by first | decide | omega) (Nat.le_of_ble_eq_true rfl) (c_X0_tryAll hT hAU hm4 hnd) (fun h X1 hT hP17 => ?_)
  obtain ⟨t1, t2⟩ := hP17
  have hC1 : CA X X1 := hC0.tr (fun kk q => t1 kk (by omega))
  have hAU2 := AU_cg hAU (t1 17 (by decide)) (t1 18 (by decide)) (t1 19 (by decide)) (t1 20 (by decide))
  obtain ⟨XT, hXT⟩ : ∃ Z, Z = X1 := ⟨_, rfl⟩
  rw [← hXT] at hT t2 hC1 hAU2
  have hlk := lckV_lt hW.1 s (nsl X s) (Nat.le_refl _)
  have hlk2 : lkV (itR X s) (shQ (nsl X s) (ftR X s false) (ndR X s)) (nsl X s) < 65536 := hlk
  have hmR : 0 ≤ mx (Rc (nsl X s) (ftR X s false) (ndR X s) 0 0 20) ∧ mx (Rc (nsl X s) (ftR X s false) (ndR X s) 0 0 20) ≤ 12 := qV
  refine ev_ist2 21 dX11_auditsAgree_20 rfl (by decide) rfl ?_
  refine ev_ald0 22 dX11_auditsAgree_21 rfl ?_
  refine ev_getfield 25 13 8 fl_X11_41_13 (tr0 hT) rfl dX11_auditsAgree_22 rfl ?_
  refine te_V0 28 3 dX11_auditsAgree_25 lkv_X11_367 (tr17 hT) rfl rfl (by first | decide | omega) (Nat.le_of_ble_eq_true rfl) (c_X0_giveAll hT hAU2 hm4 hnd) (fun h X1 v25 hT hP25 => ?_)
  obtain ⟨w1, w2, w3⟩ := hP25
  have hv : v25 = mx (Rc (nsl X s) (ftR X s false) (ndR X s) 0 0 20) := ga_mx hm4 hnd w2 w3
  have hC2 : CA X X1 := hC1.tr (fun kk q => w1 kk (by omega) (by omega) (by omega) (by omega) (by omega))
  have hAU3 := AU_f hAU2 w1
  have hMC : MC X1 (nsl X s) (Rc (nsl X s) (ftR X s false) (ndR X s) 0 0 20) := by have e26 : X1 26 = XT 26 := w1 26 (by decide) (by decide) (by decide) (by decide) (by decide); unfold MC; rw [e26]; exact t2
  refine ev_ild2 29 dX11_auditsAgree_28 rfl ?_
  refine tj_icmp_ne 54 32 dX11_auditsAgree_29 (by decide) rfl (by first | exact TR.rng hT _ _ _ | exact R31_of _ | exact bi_R _ | (constructor <;> omega)) (by first | exact TR.rng hT _ _ _ | exact R31_of _ | exact bi_R _ | (constructor <;> omega)) (fun c29 => ?_) (fun c29 => ?_)
  · exact False.elim (by omega)
  · skip
    refine ev_ald0 33 dX11_auditsAgree_32 rfl ?_
    refine ev_getfield 36 13 8 fl_X11_41_13 (tr0 hT) rfl dX11_auditsAgree_33 rfl ?_
    refine tc_V0 39 3 dX11_auditsAgree_36 lkv_X11_373 (tr17 hT) rfl rfl (by first | decide | omega) (Nat.le_of_ble_eq_true rfl) (c_X0_shortRules hT hAU3 hm4 hnd hit hinc w3 w2) ?_
    refine ev_ald0 40 dX11_auditsAgree_39 rfl ?_
    refine ev_getfield 43 13 8 fl_X11_41_13 (tr0 hT) rfl dX11_auditsAgree_40 rfl ?_
    refine ev_ild2 44 dX11_auditsAgree_43 rfl ?_
    refine tc_V1 47 3 dX11_auditsAgree_44 lkv_X11_376 (tr17 hT) rfl rfl (by first | decide | omega) (Nat.le_of_ble_eq_true rfl) (c_X0_shortRulesByTrial hT hAU3 hm4 hnd hit hinc hMC) ?_
    refine tj_icmp_ne 54 50 dX11_auditsAgree_47 (by decide) rfl (by first | exact TR.rng hT _ _ _ | exact R31_of _ | exact bi_R _ | (constructor <;> omega)) (by first | exact TR.rng hT _ _ _ | exact R31_of _ | exact bi_R _ | (constructor <;> omega)) (fun c47 => ?_) (fun c47 => ?_)
    · exact False.elim (by omega)
    · skip
      refine tj_iconst 51 dX11_auditsAgree_50 rfl ?_
      refine ev_goto 55 dX11_auditsAgree_51 (by decide) ?_
      exact tz_retU (by first | rfl | omega | exact bi_dt (by omega) | exact bi_df (by omega) | (rfl)) hT (by exact hC2) rfl dX11_auditsAgree_55
def csP (X : XM) (c : Nat) : Prop := enr X c ≤ X 12 c 2 ∧ ∀ k : Nat, (k : Int) < X 1 (4 + c) 2 → tak X (X 2 (4 + c) (k + 1)).toNat c = false ∧ canT X (X 2 (4 + c) (k + 1)).toNat c = false
noncomputable def csV (X : XM) (c : Nat) : Bool := @decide (csP X c) (Classical.propDecidable _)
theorem csV_t {X : XM} {c : Nat} (h : csP X c) : true = csV X c := (@decide_eq_true _ (Classical.propDecidable _) h).symm
theorem csV_f {X : XM} {c : Nat} (h : ¬ csP X c) : false = csV X c := (@decide_eq_false _ (Classical.propDecidable _) h).symm
theorem csV_iff {X : XM} {c : Nat} : csV X c = true ↔ csP X c := ⟨fun h => @of_decide_eq_true _ (Classical.propDecidable _) h, fun h => @decide_eq_true _ (Classical.propDecidable _) h⟩
theorem plc_at {O : XM} {c s : Nat} : ∀ n : Nat, plc O c s n ≠ -1 → ∃ k : Nat, k < n ∧ O 2 (4 + c) (k + 1) = s
  | 0, h => absurd rfl h
  | n + 1, h => by
    by_cases q : plc O c s n = -1
    · by_cases e : O 2 (4 + c) (n + 1) = s
      · exact ⟨n, Nat.lt_succ_self n, e⟩
      · exact absurd (plc_miss q e) h
    · obtain ⟨k, a, b⟩ := plc_at n q
      exact ⟨k, by omega, b⟩
theorem plc_in {O : XM} {c s k : Nat} (h : O 2 (4 + c) (k + 1) = s) (n : Nat) (hk : k < n) : plc O c s n ≠ -1 := by
  by_cases q : plc O c s k = -1
  · rw [plc_hit q h n hk]; omega
  · have hs : ∀ j, plc O c s (k + j) ≠ -1 := by
      intro j
      induction j with
      | zero => exact q
      | succ j ih =>
        show (if plc O c s (k + j) = -1 then (if O 2 (4 + c) (k + j + 1) = s then ((k + j : Nat) : Int) else -1) else plc O c s (k + j)) ≠ -1
        rw [if_neg ih]
        exact ih
    have := hs (n - k)
    rw [show k + (n - k) = n by omega] at this
    exact this
/-- the two ways to look at it -/
theorem sndP_of {X : XM} (hO : WO X) (h1 : ∀ c : Nat, (c : Int) < nC X → csP X c) (h2 : ∀ s : Nat, (s : Int) < nS X → load X s ≤ 18) : sndP X := by
  refine ⟨fun c hc => (h1 c hc).1, fun s hs => ⟨h2 s hs, fun c hc hp => ?_⟩⟩
  unfold place at hp
  obtain ⟨k, a, b⟩ := plc_at _ hp
  have q := wo_wN hO c hc
  have := (h1 c hc).2 k (by omega)
  rw [b, Int.toNat_natCast] at this
  exact this
theorem sndP_cs {X : XM} (hO : WO X) (h : sndP X) {c : Nat} (hc : (c : Int) < nC X) : csP X c := by
  refine ⟨h.1 c hc, fun k hk => ?_⟩
  have q := wo_wA hO c k hc hk
  refine (h.2 (X 2 (4 + c) (k + 1)).toNat (by omega)).2 c hc ?_
  unfold place
  exact plc_in (k := k) (by omega) _ (by omega)
set_option maxRecDepth 100000 in
set_option maxHeartbeats 4000000 in
theorem c_X11_isCourseSound {g : Gt} {α : AL} {ν : Nat → Nat → Bool} {X : XM} {h : AH} (hT : TR g α ν X h) (hW : WX ν X) {c : Nat} (hc : (c : Int) < nC X) : Pr g M_X11_isCourseSound 7 [.ref (α 0 0), .ref (α 12 c)] h (some (.int (J (bi (csV X c))))) := by
  refine pr_of rfl rfl (ls := [some (.ref (α 0 0)), some (.ref (α 12 c)), none, none]) rfl (Nat.le_of_ble_eq_true rfl) ?_
  show Ev g M_X11_isCourseSound 7 0 [some (.ref (α 0 0)), some (.ref (α 12 c)), none, none] [] h 0 0 (PQ (some (.int (J (bi (csV X c))))) h)
  have q1 := wo_nC hW.1
  have q3 := wo_nS hW.1
  have q5 := wo_wN hW.1 c hc
  have q6 := wo_sea hW.1 c hc
  have qen := cnt_0 (fun s => tak X s c) (nS X).toNat
  have qen1 : enr X c = cnt (fun s => tak X s c) (nS X).toNat := rfl
  refine ev_ald0 1 dX11_isCourseSound_0 rfl ?_
  refine ev_ald1 2 dX11_isCourseSound_1 rfl ?_
  refine tc_V1 5 13 dX11_isCourseSound_2 lkv_X11_314 (tr0 hT) rfl rfl (by first | decide | omega) (Nat.le_of_ble_eq_true rfl) (c_X11_takersOf hT hW (by omega)) ?_
  refine ev_ald1 6 dX11_isCourseSound_5 rfl ?_
  refine ev_getfield 9 5 2 fl_X11_113_5 (tr12 hT (by first | assumption | exact wx_stu hW (by omega) | exact wx_crs hW (by omega) | exact wx_new hW)) rfl dX11_isCourseSound_6 rfl ?_
  refine tj_icmp_le 14 12 dX11_isCourseSound_9 (by decide) rfl (by first | exact TR.rng hT _ _ _ | exact R31_of _ | exact bi_R _ | (constructor <;> omega)) (by first | exact TR.rng hT _ _ _ | exact R31_of _ | exact bi_R _ | (constructor <;> omega)) (fun c9 => ?_) (fun c9 => ?_)
  · skip
    refine tj_iconst 15 dX11_isCourseSound_14 rfl ?_
    refine ev_ist2 16 dX11_isCourseSound_15 rfl (by decide) rfl ?_
    have lp16 : ∀ (n16 : Nat) (k : Nat) (z2 : Int) (o3 : Option Value), 7 - k < n16 → ((k : Int) ≤ X 1 (4 + c) 2) → (∀ j : Nat, j < k → tak X (X 2 (4 + c) (j + 1)).toNat c = false ∧ canT X (X 2 (4 + c) (j + 1)).toNat c = false) → z2 = (k : Int) → Ev g M_X11_isCourseSound 7 16 [some (.ref (α 0 0)), some (.ref (α 12 c)), some (.int (J z2)), o3] [] h 0 0 (PQ (some (.int (J (bi (csV X c))))) h) := by
      intro n16
      induction n16 with
      | zero => intro k z2 o3 hm; exact absurd hm (Nat.not_lt_zero _)
      | succ n16 ih16 =>
        intro k z2 o3 hm16 hk hk2 e2
        subst e2
        refine ev_ild2 17 dX11_isCourseSound_16 rfl ?_
        refine ev_ald1 18 dX11_isCourseSound_17 rfl ?_
        refine ev_getfield 21 5 4 fl_X11_217_5 (tr12 hT (by first | assumption | exact wx_stu hW (by omega) | exact wx_crs hW (by omega) | exact wx_new hW)) rfl dX11_isCourseSound_18 rfl ?_
        refine tc_V0 24 2 dX11_isCourseSound_21 lkv_X11_70 (tr1_W hT (by first | assumption | exact wx_stu hW (by omega) | exact wx_crs hW (by omega) | exact wx_new hW)) rfl rfl (by first | decide | omega) (Nat.le_of_ble_eq_true rfl) (z_W hT hW (by omega)) ?_
        refine tj_icmp_ge 68 27 dX11_isCourseSound_24 (by decide) rfl (by first | exact TR.rng hT _ _ _ | exact R31_of _ | exact bi_R _ | (constructor <;> omega)) (by first | exact TR.rng hT _ _ _ | exact R31_of _ | exact bi_R _ | (constructor <;> omega)) (fun c24 => ?_) (fun c24 => ?_)
        · skip
          refine tj_iconst 69 dX11_isCourseSound_68 rfl ?_
          exact tz_ret (by first | rfl | omega | exact bi_dt (by omega) | exact bi_df (by omega) | (exact congrArg bi (csV_t ⟨by omega, fun k9 h9 => hk2 k9 (by omega)⟩))) rfl dX11_isCourseSound_69
        · skip
          have r4 := wo_wA hW.1 c k hc (by omega)
          obtain ⟨s, r5⟩ : ∃ s : Nat, (X 2 (4 + c) (k + 1)).toNat = s := ⟨_, rfl⟩
          have r6 := wx_stu hW (s := s) (by omega)
          have hk9 : (k : Int) < X 1 (4 + c) 2 := by omega
          refine ev_ald1 28 dX11_isCourseSound_27 rfl ?_
          refine ev_getfield 31 5 4 fl_X11_217_5 (tr12 hT (by first | assumption | exact wx_stu hW (by omega) | exact wx_crs hW (by omega) | exact wx_new hW)) rfl dX11_isCourseSound_28 rfl ?_
          refine ev_ild2 32 dX11_isCourseSound_31 rfl ?_
          refine tc_V1 35 2 dX11_isCourseSound_32 lkv_X11_276 (tr1_W hT (by first | assumption | exact wx_stu hW (by omega) | exact wx_crs hW (by omega) | exact wx_new hW)) rfl rfl (by first | decide | omega) (Nat.le_of_ble_eq_true rfl) (g_W hT hW (by omega) (by omega)) ?_
          rw [r5]
          refine ev_castS 38 dX11_isCourseSound_35 cl_X11_29 (tr4 hT (by first | assumption | exact wx_stu hW (by omega) | exact wx_crs hW (by omega) | exact wx_new hW) (by omega)) rfl rfl ?_
          refine ev_ast3 39 dX11_isCourseSound_38 rfl (by decide) rfl ?_
          refine ev_ald3 40 dX11_isCourseSound_39 rfl ?_
          refine ev_getfield 43 10 1 fl_X11_214_10 (tr4 hT (by first | assumption | exact wx_stu hW (by omega) | exact wx_crs hW (by omega) | exact wx_new hW) (by omega)) rfl dX11_isCourseSound_40 rfl ?_
          refine ev_ald1 44 dX11_isCourseSound_43 rfl ?_
          refine ev_getfield 47 5 0 fl_X11_428_5 (tr12 hT (by first | assumption | exact wx_stu hW (by omega) | exact wx_crs hW (by omega) | exact wx_new hW)) rfl dX11_isCourseSound_44 rfl ?_
          first | refine tv_zald 48 (tr5 hT (by first | assumption | exact wx_stu hW (by omega) | exact wx_crs hW (by omega) | exact wx_new hW) (by omega)) _ rfl (by omega) (by omega) dX11_isCourseSound_47 rfl ?_ | refine tv_zald 48 (tr5 hT (by first | assumption | exact wx_stu hW (by omega) | exact wx_crs hW (by omega) | exact wx_new hW) (by omega)) (Int.toNat _) (by omega) (by omega) (by omega) dX11_isCourseSound_47 rfl ?_
          refine tj_if_ne 60 51 dX11_isCourseSound_48 (by decide) rfl (by first | exact TR.rng hT _ _ _ | exact R31_of _ | exact bi_R _ | (constructor <;> omega)) (fun c48 => ?_) (fun c48 => ?_)
          · skip
            have hno : ¬ csP X c := fun q => by have := (q.2 k hk9).1; rw [r5] at this; exact absurd this (by unfold tak; rw [decide_eq_true c48]; decide)
            refine tj_iconst 61 dX11_isCourseSound_60 rfl ?_
            exact tz_ret (by first | rfl | omega | exact bi_dt (by omega) | exact bi_df (by omega) | (exact congrArg bi (csV_f hno))) rfl dX11_isCourseSound_61
          · skip
            refine ev_ald0 52 dX11_isCourseSound_51 rfl ?_
            refine ev_ald3 53 dX11_isCourseSound_52 rfl ?_
            refine ev_ald1 54 dX11_isCourseSound_53 rfl ?_
            refine tc_V2 57 13 dX11_isCourseSound_54 lkv_X11_437 (tr0 hT) rfl rfl (by first | decide | omega) (Nat.le_of_ble_eq_true rfl) (c_X11_canTakeSeat hT hW (s := s) (by omega) (by omega)) ?_
            refine tb_if_eq 62 60 dX11_isCourseSound_57 (by decide) rfl (fun c57 => ?_) (fun c57 => ?_)
            · skip
              have hk3 : ∀ j : Nat, j < k + 1 → tak X (X 2 (4 + c) (j + 1)).toNat c = false ∧ canT X (X 2 (4 + c) (j + 1)).toNat c = false := fun j hj => by by_cases e : j = k; (rw [e, r5]; exact ⟨by unfold tak; rw [c48]; rfl, c57⟩); exact hk2 j (by omega)
              refine tj_inc2 65 dX11_isCourseSound_62 rfl (by decide) rfl ?_
              refine ev_goto 16 dX11_isCourseSound_65 (by decide) ?_
              exact ih16 (k + 1) _ _ (by omega) (by first | omega | assumption | first | exact fun j hj => absurd hj (Nat.not_lt_zero j) | exact hk3) (by first | omega | assumption | first | exact fun j hj => absurd hj (Nat.not_lt_zero j) | exact hk3) (by first | rfl | omega | (omega))
            · skip
              have hno : ¬ csP X c := fun q => by have := (q.2 k hk9).2; rw [r5, c57] at this; cases this
              refine tj_iconst 61 dX11_isCourseSound_60 rfl ?_
              exact tz_ret (by first | rfl | omega | exact bi_dt (by omega) | exact bi_df (by omega) | (exact congrArg bi (csV_f hno))) rfl dX11_isCourseSound_61
    exact lp16 _ (0) _ _ (Nat.lt_succ_self _) (by first | omega | assumption | first | exact fun j hj => absurd hj (Nat.not_lt_zero j) | exact hk3) (by first | omega | assumption | first | exact fun j hj => absurd hj (Nat.not_lt_zero j) | exact hk3) (by first | rfl | omega | (omega))
  · skip
    have hno : ¬ csP X c := fun q => by have := q.1; omega
    refine tj_iconst 13 dX11_isCourseSound_12 rfl ?_
    exact tz_ret (by first | rfl | omega | exact bi_dt (by omega) | exact bi_df (by omega) | (exact congrArg bi (csV_f hno))) rfl dX11_isCourseSound_13
set_option maxRecDepth 100000 in
set_option maxHeartbeats 4000000 in
theorem c_X11_isSound {g : Gt} {α : AL} {ν : Nat → Nat → Bool} {X : XM} {h : AH} (hT : TR g α ν X h) (hW : WX ν X) : Mu g α ν M_X11_isSound 28 [.ref (α 0 0)] h (some (.int (J (bi (sndV X))))) (fun X' => CA X X') := by
  refine mu_of rfl rfl (ls := [some (.ref (α 0 0)), none, none]) rfl (Nat.le_of_ble_eq_true rfl) ?_
  show Ev g M_X11_isSound 28 0 [some (.ref (α 0 0)), none, none] [] h 0 0 (UQ g α ν (some (.int (J (bi (sndV X))))) (fun X' => CA X X'))
  have q1 := wo_nC hW.1
  have q3 := wo_nS hW.1
  have hW0 := hW
  refine tj_iconst 1 dX11_isSound_0 rfl ?_
  refine ev_ist1 2 dX11_isSound_1 rfl (by decide) rfl ?_
  have lp2 : ∀ (n2 : Nat) (c : Nat) (z1 : Int) (o2 : Option Value), 21 - c < n2 → ((c : Int) ≤ nC X) → (∀ j : Nat, j < c → csP X j) → z1 = (c : Int) → Ev g M_X11_isSound 28 2 [some (.ref (α 0 0)), some (.int (J z1)), o2] [] h 0 0 (UQ g α ν (some (.int (J (bi (sndV X))))) (fun X' => CA X X')) := by
    intro n2
    induction n2 with
    | zero => intro c z1 o2 hm; exact absurd hm (Nat.not_lt_zero _)
    | succ n2 ih2 =>
      intro c z1 o2 hm2 hc hc2 e1
      subst e1
      refine ev_ild1 3 dX11_isSound_2 rfl ?_
      refine ev_ald0 4 dX11_isSound_3 rfl ?_
      refine ev_getfield 7 13 0 fl_X11_12_13 (tr0 hT) rfl dX11_isSound_4 rfl ?_
      refine tc_V0 10 2 dX11_isSound_7 lkv_X11_70 (tr1_0 hT) rfl rfl (by first | decide | omega) (Nat.le_of_ble_eq_true rfl) (z_C hT hW) ?_
      refine tj_icmp_ge 39 13 dX11_isSound_10 (by decide) rfl (by first | exact TR.rng hT _ _ _ | exact R31_of _ | exact bi_R _ | (constructor <;> omega)) (by first | exact TR.rng hT _ _ _ | exact R31_of _ | exact bi_R _ | (constructor <;> omega)) (fun c10 => ?_) (fun c10 => ?_)
      · skip
        refine tj_iconst 40 dX11_isSound_39 rfl ?_
        refine ev_ist1 41 dX11_isSound_40 rfl (by decide) rfl ?_
        have lp41 : ∀ (n41 : Nat) (s : Nat) (z1 : Int) (o2 : Option Value) (h : AH) (X2 : XM), 17 - s < n41 → ((s : Int) ≤ nS X) → (∀ j : Nat, j < s → load X j ≤ 18) → z1 = (s : Int) → TR g α ν X2 h → CA X X2 → Ev g M_X11_isSound 28 41 [some (.ref (α 0 0)), some (.int (J z1)), o2] [] h 0 0 (UQ g α ν (some (.int (J (bi (sndV X))))) (fun X' => CA X X')) := by
          intro n41
          induction n41 with
          | zero => intro s z1 o2 h X2 hm; exact absurd hm (Nat.not_lt_zero _)
          | succ n41 ih41 =>
            intro s z1 o2 h X2 hm41 hs hs2 e1 hT hI
            subst e1
            have hW : WX ν X2 := CA.wx hI hW0
            have e1 : X2 1 = X 1 := hI 1 (by omega)
            have en2 : nS X2 = nS X := by unfold nS; rw [e1]
            have el := fun s => load_cg (X := X) (Y := X2) (hI 5 (by omega)) (hI 12 (by omega)) e1 s
            have q8 := crS_0 hW0.1 (tak X s) (nC X).toNat (by omega)
            have q9 : load X s = crS X (tak X s) (nC X).toNat := rfl
            refine ev_ild1 42 dX11_isSound_41 rfl ?_
            refine ev_ald0 43 dX11_isSound_42 rfl ?_
            refine ev_getfield 46 13 1 fl_X11_16_13 (tr0 hT) rfl dX11_isSound_43 rfl ?_
            refine tc_V0 49 2 dX11_isSound_46 lkv_X11_70 (tr1_1 hT) rfl rfl (by first | decide | omega) (Nat.le_of_ble_eq_true rfl) (z_S hT hW) ?_
            refine tj_icmp_ge 90 52 dX11_isSound_49 (by decide) rfl (by first | exact TR.rng hT _ _ _ | exact R31_of _ | exact bi_R _ | (constructor <;> omega)) (by first | exact TR.rng hT _ _ _ | exact R31_of _ | exact bi_R _ | (constructor <;> omega)) (fun c49 => ?_) (fun c49 => ?_)
            · skip
              refine tj_iconst 91 dX11_isSound_90 rfl ?_
              exact tz_retU (by first | rfl | omega | exact bi_dt (by omega) | exact bi_df (by omega) | (exact congrArg bi (sndV_t (sndP_of hW0.1 (fun c hc9 => hc2 c (by omega)) (fun s hs9 => hs2 s (by omega)))).symm)) hT (by exact hI) rfl dX11_isSound_91
            · skip
              have hls := el s
              refine ev_ald0 53 dX11_isSound_52 rfl ?_
              refine ev_getfield 56 13 1 fl_X11_16_13 (tr0 hT) rfl dX11_isSound_53 rfl ?_
              refine ev_ild1 57 dX11_isSound_56 rfl ?_
              refine tc_V1 60 2 dX11_isSound_57 lkv_X11_276 (tr1_1 hT) rfl rfl (by first | decide | omega) (Nat.le_of_ble_eq_true rfl) (g_S hT hW (by omega)) ?_
              refine ev_castS 63 dX11_isSound_60 cl_X11_29 (tr4 hT (by first | assumption | exact wx_stu hW (by omega) | exact wx_crs hW (by omega) | exact wx_new hW) (by omega)) rfl rfl ?_
              refine ev_ast2 64 dX11_isSound_63 rfl (by decide) rfl ?_
              refine ev_ald0 65 dX11_isSound_64 rfl ?_
              refine ev_ald2 66 dX11_isSound_65 rfl ?_
              refine tc_V1 69 13 dX11_isSound_66 lkv_X11_266 (tr0 hT) rfl rfl (by first | decide | omega) (Nat.le_of_ble_eq_true rfl) (c_X11_loadOn hT hW (wx_stu hW (by omega)) (by omega)) ?_
              refine tj_bipush 71 dX11_isSound_69 (by decide) rfl ?_
              refine tj_icmp_gt 82 74 dX11_isSound_71 (by decide) rfl (by first | exact TR.rng hT _ _ _ | exact R31_of _ | exact bi_R _ | (constructor <;> omega)) (by first | exact TR.rng hT _ _ _ | exact R31_of _ | exact bi_R _ | (constructor <;> omega)) (fun c71 => ?_) (fun c71 => ?_)
              · skip
                have hno : ¬ sndP X := fun q => by have := (q.2 s (by omega)).1; omega
                refine tj_iconst 83 dX11_isSound_82 rfl ?_
                exact tz_retU (by first | rfl | omega | exact bi_dt (by omega) | exact bi_df (by omega) | (exact congrArg bi (sndV_f hno).symm)) hT (by exact hI) rfl dX11_isSound_83
              · skip
                refine ev_ald0 75 dX11_isSound_74 rfl ?_
                refine ev_ald2 76 dX11_isSound_75 rfl ?_
                refine tm_V1 79 13 dX11_isSound_76 lkv_X11_391 (tr0 hT) rfl rfl (by first | decide | omega) (Nat.le_of_ble_eq_true rfl) (c_X11_auditsAgree hT hW (by omega)) (fun h X1 hT hP76 => ?_)
                refine tb_if_ne 84 82 dX11_isSound_79 (by decide) rfl (fun c79 => ?_) (fun c79 => ?_)
                · skip
                  have hs3 : ∀ j : Nat, j < s + 1 → load X j ≤ 18 := fun j hj => by by_cases e : j = s; (rw [e]; omega); exact hs2 j (by omega)
                  refine tj_inc1 87 dX11_isSound_84 rfl (by decide) rfl ?_
                  refine ev_goto 41 dX11_isSound_87 (by decide) ?_
                  exact ih41 (s + 1) _ _ _ _ (by omega) (by first | omega | assumption | first | exact fun j hj => absurd hj (Nat.not_lt_zero j) | exact hs3) (by first | omega | assumption | first | exact fun j hj => absurd hj (Nat.not_lt_zero j) | exact hs3) (by first | rfl | omega | (omega)) hT (by first | assumption | (first | exact CA.rf X | exact CA.tr hI hP76))
                · exact False.elim (by cases c79)
        exact lp41 _ (0) _ _ _ _ (Nat.lt_succ_self _) (by first | omega | assumption | first | exact fun j hj => absurd hj (Nat.not_lt_zero j) | exact hs3) (by first | omega | assumption | first | exact fun j hj => absurd hj (Nat.not_lt_zero j) | exact hs3) (by first | rfl | omega | (omega)) hT (by first | assumption | (first | exact CA.rf X | exact CA.tr hI hP76))
      · skip
        refine ev_ald0 14 dX11_isSound_13 rfl ?_
        refine ev_ald0 15 dX11_isSound_14 rfl ?_
        refine ev_getfield 18 13 0 fl_X11_12_13 (tr0 hT) rfl dX11_isSound_15 rfl ?_
        refine ev_ild1 19 dX11_isSound_18 rfl ?_
        refine tc_V1 22 2 dX11_isSound_19 lkv_X11_276 (tr1_0 hT) rfl rfl (by first | decide | omega) (Nat.le_of_ble_eq_true rfl) (g_C hT hW (by omega)) ?_
        refine ev_castS 25 dX11_isSound_22 cl_X11_79 (tr12 hT (by first | assumption | exact wx_stu hW (by omega) | exact wx_crs hW (by omega) | exact wx_new hW)) rfl rfl ?_
        refine tc_V1 28 13 dX11_isSound_25 lkv_X11_387 (tr0 hT) rfl rfl (by first | decide | omega) (Nat.le_of_ble_eq_true rfl) (c_X11_isCourseSound hT hW (by omega)) ?_
        refine tb_if_ne 33 31 dX11_isSound_28 (by decide) rfl (fun c28 => ?_) (fun c28 => ?_)
        · skip
          have hc3 : ∀ j : Nat, j < c + 1 → csP X j := fun j hj => by by_cases e : j = c; (rw [e]; exact csV_iff.mp c28); exact hc2 j (by omega)
          refine tj_inc1 36 dX11_isSound_33 rfl (by decide) rfl ?_
          refine ev_goto 2 dX11_isSound_36 (by decide) ?_
          exact ih2 (c + 1) _ _ (by omega) (by first | omega | assumption | first | exact fun j hj => absurd hj (Nat.not_lt_zero j) | exact hc3) (by first | omega | assumption | first | exact fun j hj => absurd hj (Nat.not_lt_zero j) | exact hc3) (by first | rfl | omega | (omega))
        · skip
          have hno : ¬ sndP X := fun q => by have := csV_iff.mpr (sndP_cs hW.1 q (c := c) (by omega)); rw [c28] at this; cases this
          refine tj_iconst 32 dX11_isSound_31 rfl ?_
          exact tz_retU (by first | rfl | omega | exact bi_dt (by omega) | exact bi_df (by omega) | (exact congrArg bi (sndV_f hno).symm)) hT (by exact CA.rf X) rfl dX11_isSound_32
  exact lp2 _ (0) _ _ (Nat.lt_succ_self _) (by first | omega | assumption | first | exact fun j hj => absurd hj (Nat.not_lt_zero j) | exact hc3) (by first | omega | assumption | first | exact fun j hj => absurd hj (Nat.not_lt_zero j) | exact hc3) (by first | rfl | omega | (omega))
