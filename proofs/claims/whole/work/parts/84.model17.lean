/-! THE REFERENCE: audits -/
/-- what an audit changes of the reference -/
def LO (X X' : XM) : Prop := (∀ kk, kk ≠ 40 → kk ≠ 73 → kk ≠ 74 → kk ≠ 78 → X' kk = X kk) ∧ ∀ j, j ≠ 35 → j ≠ 36 → j ≠ 37 → X' 40 0 j = X 40 0 j
theorem LO.rf (X : XM) : LO X X := ⟨fun _ _ _ _ _ => rfl, fun _ _ _ _ => rfl⟩
theorem LO.tr {X Y Z : XM} (h1 : LO X Y) (h2 : LO Y Z) : LO X Z := ⟨fun kk a b c d => (h2.1 kk a b c d).trans (h1.1 kk a b c d), fun j a b c => (h2.2 j a b c).trans (h1.2 j a b c)⟩
theorem LO.s78 {X Y Z : XM} (h : LO X Y) (hk : ∀ kk, kk ≠ 78 → Z kk = Y kk) : LO X Z := h.tr ⟨fun kk _ _ _ d => hk kk d, fun j _ _ _ => by rw [hk 40 (by decide)]⟩
theorem LO.st {X Y : XM} (h : LO X Y) {k j : Nat} {v : Int} (hk : k = 73 ∨ k = 74) : LO X (xs Y k 0 j v) := h.tr ⟨fun kk a b c d => xs_nk (by omega), fun j _ _ _ => by rw [xs_nk (by omega)]⟩
theorem LO.s4 {X Y : XM} (h : LO X Y) {j : Nat} {v : Int} (hj : j = 35 ∨ j = 36 ∨ j = 37) : LO X (xs Y 40 0 j v) := h.tr ⟨fun kk a b c d => xs_nk a, fun i a b c => by rw [xs_at, if_neg (by omega)]⟩
theorem LO.rm {O X Y : XM} (h : LO X Y) (hM : RM O X) : RM O Y := rm_cg hM (fun k a b => h.1 k (by omega) (by omega) (by omega) (by omega)) (fun j q => h.2 j (by omega) (by omega) (by omega))
theorem LO.cz {X Y Z : XM} {v : Int} (h : LO Y Z) (hc : CZ X Y v) : CZ X Z v := ⟨fun kk q => by rw [h.1 kk (by omega) (by omega) (by omega) (by omega)]; exact hc.1 kk q, by rw [h.2 0 (by decide) (by decide) (by decide)]; exact hc.2⟩
/-- the most courses; the short slots; their rules; the slot of a course in the first best match -/
noncomputable def mstV (O : XM) (s : Nat) (b : Bool) : Int := mx (Rc (nsl O s) (ftR O s b) (ndR O s) 0 0 20)
noncomputable def shp (O : XM) (s k : Nat) : Bool := decide (mx (Rc (nsl O s) (ftR O s false) (rm1 (ndR O s) k) 0 0 20) = mstV O s false)
noncomputable def lckV (O : XM) (s : Nat) : Nat := lkV (itR O s) (shp O s) (nsl O s)
noncomputable def gflV (O : XM) (s c : Nat) : Nat := gfl (nsl O s) (ftR O s false) (ndR O s) 20 (mstV O s false) c
noncomputable def givV (O : XM) (s c : Nat) : Int := gsl (nsl O s) (ftR O s false) (ndR O s) 20 (mstV O s false) c (gflV O s c) (nsl O s)
theorem mx_nC {O : XM} (hO : WO O) {s : Nat} {b : Bool} {rm : Nat → Int} {fr fl : Nat} (hfr : (fr : Int) ≤ nC O) : mx (Rc (nsl O s) (ftR O s b) rm fr fl ((nC O).toNat - fr)) = mx (Rc (nsl O s) (ftR O s b) rm fr fl (20 - fr)) := by
  have q := wo_nC hO
  refine mx_cg (fun g => ?_)
  have e := Rc_far (m := nsl O s) (fit := ftR O s b) (rm := rm) (fr := fr) (fill := fl) (n := (nC O).toNat) (fun c k h1 _ => ftR_far (by omega)) ((nC O).toNat - fr) (20 - (nC O).toNat) (by omega) g
  rw [show (nC O).toNat - fr + (20 - (nC O).toNat) = 20 - fr by omega] at e
  exact e.symm
theorem mx_R {m : Nat} {fit : Nat → Nat → Bool} {rm : Nat → Int} {fr fl i : Nat} (hm : m ≤ 4) (hr : ∀ k, k < m → rm k ≤ 3) (hf : fl < 256) : 0 ≤ mx (Rc m fit rm fr fl i) ∧ mx (Rc m fit rm fr fl i) ≤ 12 := by
  obtain ⟨-, g, -, h⟩ := mx_ex (R := Rc m fit rm fr fl i) (Rc_self i) (fun g q => Rc_lt hm hr hf i q)
  have := nf_12 g
  omega
theorem mstV_R {O : XM} (hO : WO O) (s : Nat) (b : Bool) : 0 ≤ mstV O s b ∧ mstV O s b ≤ 12 := mx_R (nsl_4 hO s) (fun k hk => (ndR_R hO hk).2) (by decide)
theorem rm1_R {O : XM} (hO : WO O) (s k : Nat) : ∀ j, j < nsl O s → 0 ≤ rm1 (ndR O s) k j ∧ rm1 (ndR O s) k j ≤ 3 := fun j hj => by
  have := ndR_R hO hj
  unfold rm1
  split <;> omega
theorem lckV_lt {O : XM} (hO : WO O) (s : Nat) : ∀ n, n ≤ nsl O s → lkV (itR O s) (shp O s) n < 65536 := fun n hn => by
  have q := wo_nR hO
  have := lkV_lt (it := itR O s) (p := shp O s) n 16 (fun k hk => by have := (itR_p hO (show k < nsl O s by omega)).1; omega) (fun k k2 h1 h2 => itR_lt h1 (by omega))
  exact this
theorem LKr_st {O X : XM} {s : Nat} {b : Bool} {rm rm2 : Nat → Int} {k : Nat} {v : Int} (h : LKr O X s b rm) (h1 : ∀ j, j < nsl O s → rm2 j = if j = k then v else rm j) : LKr O (xs X 74 0 k v) s b rm2 := by
  obtain ⟨a1, a2, a3, a4⟩ := h
  refine ⟨by rw [xs_nk (by decide)]; exact a1, by rw [xs_nk (by decide)]; exact a2, by rw [xs_nk (by decide)]; exact a3, fun j hj => ⟨by rw [xs_nk (by decide)]; exact (a4 j hj).1, ?_⟩⟩
  rw [xs_at, h1 j hj]
  split
  · rfl
  · exact (a4 j hj).2
theorem cnt_R4 {O : XM} (hO : WO O) {s r : Nat} (hr : (r : Int) < nR O) (hp : prM O s r = true) : 0 ≤ cnt (prM O s) r ∧ cnt (prM O s) r < 4 := by
  have a := wo_rm4 hO (O 4 s 0)
  have q := wo_nR hO
  have b := cnt_mono (prM O s) (r + 1) ((nR O).toNat - (r + 1))
  rw [show r + 1 + ((nR O).toNat - (r + 1)) = (nR O).toNat by omega, cnt_s, if_pos hp] at b
  have c : cnt (prM O s) (nR O).toNat ≤ 4 := a
  have d := cnt_0 (prM O s) r
  omega
set_option maxRecDepth 100000 in
set_option maxHeartbeats 4000000 in
theorem c_X12_looksAt {g : Gt} {α : AL} {ν : Nat → Nat → Bool} {X : XM} {h : AH} (hT : TR g α ν X h) {O : XM} (hO : WO O) (hM : RM O X) {s : Nat} (hs : (s : Int) < nS O) {b : Bool} : Mu g α ν M_X12_looksAt 1 [.ref (α 40 0), .int (J (s : Int)), .int (J (bi b))] h (none) (fun X' => LO X X' ∧ LKr O X' s b (ndR O s)) := by
  refine mu_of rfl rfl (ls := [some (.ref (α 40 0)), some (.int (J (s : Int))), some (.int (J (bi b))), none]) rfl (Nat.le_of_ble_eq_true rfl) ?_
  show Ev g M_X12_looksAt 1 0 [some (.ref (α 40 0)), some (.int (J (s : Int))), some (.int (J (bi b))), none] [] h 0 0 (UQ g α ν (none) (fun X' => LO X X' ∧ LKr O X' s b (ndR O s)))
  have q0 := rm_nC hM
  have q1 := wo_nC hO
  have q2 := rm_nS hM
  have q3 := wo_nS hO
  have qnR := wo_nR hO
  refine ev_ald0 1 dX12_looksAt_0 rfl ?_
  refine ev_ild1 2 dX12_looksAt_1 rfl ?_
  refine tv_puti 5 36 .int fl_X12_264_14 fp_14_36 hT (tv40 hT) (fun _ => rfl) rfl (Nat.le_of_ble_eq_true rfl) rfl rfl (by first | exact TR.rng hT _ _ _ | exact R31_of _ | exact bi_R _ | (constructor <;> omega)) dX12_looksAt_2 rfl (fun h hT => ?_)
  obtain ⟨XA, hXA⟩ : ∃ Z, Z = xs X 40 0 36 s := ⟨_, rfl⟩
  rw [← hXA] at hT
  refine ev_ald0 6 dX12_looksAt_5 rfl ?_
  refine ev_ild2 7 dX12_looksAt_6 rfl ?_
  refine tv_puti 10 37 .boolean fl_X12_267_14 fp_14_37 hT (tv40 hT) (fun _ => rfl) rfl (Nat.le_of_ble_eq_true rfl) (nar_Z (by first | exact bi_01 _ | omega)) (fits_z (by first | exact bi_01 _ | omega)) (by first | exact TR.rng hT _ _ _ | exact R31_of _ | exact bi_R _ | (constructor <;> omega)) dX12_looksAt_7 rfl (fun h hT => ?_)
  obtain ⟨XB, hXB⟩ : ∃ Z, Z = xs XA 40 0 37 (bi b) := ⟨_, rfl⟩
  rw [← hXB] at hT
  refine ev_ald0 11 dX12_looksAt_10 rfl ?_
  refine tj_iconst 12 dX12_looksAt_11 rfl ?_
  refine tv_puti 15 35 .int fl_X12_271_14 fp_14_35 hT (tv40 hT) (fun _ => rfl) rfl (Nat.le_of_ble_eq_true rfl) rfl rfl (by first | exact TR.rng hT _ _ _ | exact R31_of _ | exact bi_R _ | (constructor <;> omega)) dX12_looksAt_12 rfl (fun h hT => ?_)
  obtain ⟨XC, hXC⟩ : ∃ Z, Z = xs XB 40 0 35 0 := ⟨_, rfl⟩
  rw [← hXC] at hT
  have hI0 : LO X XC ∧ XC 40 0 35 = cnt (prM O s) 0 ∧ XC 40 0 36 = s ∧ XC 40 0 37 = bi b ∧ ∀ k : Nat, (k : Int) < cnt (prM O s) 0 → XC 73 0 k = itN (prM O s) k 0 ∧ XC 74 0 k = O 14 (itN (prM O s) k 0) 1 := ⟨by rw [hXC, hXB, hXA]; exact (((LO.rf X).s4 (by omega)).s4 (by omega)).s4 (by omega), by rw [hXC, xs_at, if_pos rfl]; rfl, by rw [hXC, xs_at, if_neg (by decide), hXB, xs_at, if_neg (by decide), hXA, xs_at, if_pos rfl], by rw [hXC, xs_at, if_neg (by decide), hXB, xs_at, if_pos rfl], fun k hk => absurd hk (by show ¬ (k : Int) < 0; omega)⟩
  refine tj_iconst 16 dX12_looksAt_15 rfl ?_
  refine ev_ist3 17 dX12_looksAt_16 rfl (by decide) rfl ?_
  have lp17 : ∀ (n17 : Nat) (r : Nat) (z3 : Int)  (h : AH) (X2 : XM), 17 - r < n17 → ((r : Int) ≤ nR O) → z3 = (r : Int) → TR g α ν X2 h → (LO X X2 ∧ X2 40 0 35 = cnt (prM O s) r ∧ X2 40 0 36 = s ∧ X2 40 0 37 = bi b ∧ ∀ k : Nat, (k : Int) < cnt (prM O s) r → X2 73 0 k = itN (prM O s) k r ∧ X2 74 0 k = O 14 (itN (prM O s) k r) 1) → Ev g M_X12_looksAt 1 17 [some (.ref (α 40 0)), some (.int (J (s : Int))), some (.int (J (bi b))), some (.int (J z3))] [] h 0 0 (UQ g α ν (none) (fun X' => LO X X' ∧ LKr O X' s b (ndR O s))) := by
    intro n17
    induction n17 with
    | zero => intro r z3 h X2 hm; exact absurd hm (Nat.not_lt_zero _)
    | succ n17 ih17 =>
      intro r z3 h X2 hm17 hr e3 hT hI
      subst e3
      obtain ⟨hF, i1, i2, i3, i4⟩ := hI
      have hMc := hF.rm hM
      have qr := rm_nR hMc
      have q4 := rm_maj hMc s hs
      refine ev_ild3 18 dX12_looksAt_17 rfl ?_
      refine ev_ald0 19 dX12_looksAt_18 rfl ?_
      refine ev_getfield 22 14 23 fl_X12_258_14 (tr40 hT) rfl dX12_looksAt_19 rfl ?_
      refine tj_icmp_ge 81 25 dX12_looksAt_22 (by decide) rfl (by first | exact TR.rng hT _ _ _ | exact R31_of _ | exact bi_R _ | (constructor <;> omega)) (by first | exact TR.rng hT _ _ _ | exact R31_of _ | exact bi_R _ | (constructor <;> omega)) (fun c22 => ?_) (fun c22 => ?_)
      · skip
        exact ev_vreturn (uq_v hT (by refine ⟨hF, ?_, i2, i3, fun k hk => ?_⟩; (unfold nsl; have := cnt_0 (prM O s) (nR O).toNat; rw [i1, show r = (nR O).toNat by omega]; omega); (unfold itR ndR; unfold nsl at hk; have := cnt_0 (prM O s) (nR O).toNat; rw [show r = (nR O).toNat by omega] at i4; exact i4 k (by omega)))) rfl dX12_looksAt_81
      · skip
        have qrl := (rm_rul hMc r (by omega)).1
        refine ev_ald0 26 dX12_looksAt_25 rfl ?_
        refine ev_getfield 29 14 24 fl_X12_61_14 (tr40 hT) rfl dX12_looksAt_26 rfl ?_
        refine ev_ild3 30 dX12_looksAt_29 rfl ?_
        refine tv_iald 31 (tr64 hT) (r) (by omega) (by omega) (by omega) dX12_looksAt_30 rfl ?_
        refine ev_ald0 32 dX12_looksAt_31 rfl ?_
        refine ev_getfield 35 14 11 fl_X12_28_14 (tr40 hT) rfl dX12_looksAt_32 rfl ?_
        refine ev_ild1 36 dX12_looksAt_35 rfl ?_
        refine tv_iald 37 (tr51 hT) (s) (by omega) (by omega) (by omega) dX12_looksAt_36 rfl ?_
        refine tj_icmp_ne 75 40 dX12_looksAt_37 (by decide) rfl (by first | exact TR.rng hT _ _ _ | exact R31_of _ | exact bi_R _ | (constructor <;> omega)) (by first | exact TR.rng hT _ _ _ | exact R31_of _ | exact bi_R _ | (constructor <;> omega)) (fun c37 => ?_) (fun c37 => ?_)
        · skip
          have hnp : prM O s r = false := decide_eq_false (by omega)
          refine tj_inc3 78 dX12_looksAt_75 rfl (by decide) rfl ?_
          refine ev_goto 17 dX12_looksAt_78 (by decide) ?_
          exact ih17 (r + 1) _ _ _ (by omega) (by first | omega | assumption | omega) (by first | rfl | omega | (omega)) hT (by first | assumption | (first | exact hI0 | exact hI5 | exact ⟨hF, by rw [i1, cnt_s, if_neg (by rw [hnp]; decide), Int.add_zero], i2, i3, fun k hk => by rw [cnt_s, if_neg (by rw [hnp]; decide), Int.add_zero] at hk; rw [itN_s hk]; exact i4 k hk⟩))
        · skip
          have hp : prM O s r = true := decide_eq_true (by omega)
          have hc4 := cnt_R4 hO (s := s) (r := r) (by omega) hp
          obtain ⟨m, hm⟩ : ∃ m : Nat, cnt (prM O s) r = (m : Int) := ⟨(cnt (prM O s) r).toNat, by omega⟩
          refine ev_ald0 41 dX12_looksAt_40 rfl ?_
          refine ev_getfield 44 14 33 fl_X12_79_14 (tr40 hT) rfl dX12_looksAt_41 rfl ?_
          refine ev_ald0 45 dX12_looksAt_44 rfl ?_
          refine ev_getfield 48 14 35 fl_X12_271_14 (tr40 hT) rfl dX12_looksAt_45 rfl ?_
          refine ev_ild3 49 dX12_looksAt_48 rfl ?_
          refine tv_iast 50 hT (tv73 hT) (fun _ => rfl) (m) (by omega) (by omega) (by omega) (by first | exact TR.rng hT _ _ _ | exact R31_of _ | exact bi_R _ | (constructor <;> omega)) dX12_looksAt_49 rfl (fun h hT => ?_)
          obtain ⟨X3, hX3⟩ : ∃ Z, Z = xs X2 73 0 m (r : Int) := ⟨_, rfl⟩
          rw [← hX3] at hT
          have e3 : X3 40 0 35 = m := by rw [hX3, xs_nk (by decide), i1, hm]
          refine ev_ald0 51 dX12_looksAt_50 rfl ?_
          refine ev_getfield 54 14 34 fl_X12_82_14 (tr40 hT) rfl dX12_looksAt_51 rfl ?_
          refine ev_ald0 55 dX12_looksAt_54 rfl ?_
          refine ev_getfield 58 14 35 fl_X12_271_14 (tr40 hT) rfl dX12_looksAt_55 rfl ?_
          refine ev_ald0 59 dX12_looksAt_58 rfl ?_
          refine ev_getfield 62 14 25 fl_X12_64_14 (tr40 hT) rfl dX12_looksAt_59 rfl ?_
          refine ev_ild3 63 dX12_looksAt_62 rfl ?_
          refine tv_iald 64 (tr65 hT) (r) (by omega) (by omega) (by omega) dX12_looksAt_63 rfl ?_
          refine tv_iast 65 hT (tv74 hT) (fun _ => rfl) (m) (by omega) (by omega) (by omega) (by first | exact TR.rng hT _ _ _ | exact R31_of _ | exact bi_R _ | (constructor <;> omega)) dX12_looksAt_64 rfl (fun h hT => ?_)
          obtain ⟨X4, hX4⟩ : ∃ Z, Z = xs X3 74 0 m (X3 65 0 r) := ⟨_, rfl⟩
          rw [← hX4] at hT
          have e4 : X4 40 0 35 = m := by rw [hX4, xs_nk (by decide), e3]
          refine ev_ald0 66 dX12_looksAt_65 rfl ?_
          refine ev_dup 67 dX12_looksAt_66 rfl rfl ?_
          refine ev_getfield 70 14 35 fl_X12_271_14 (tr40 hT) rfl dX12_looksAt_67 rfl ?_
          refine tj_iconst 71 dX12_looksAt_70 rfl ?_
          refine tj_iadd 72 dX12_looksAt_71 rfl ?_
          refine tv_puti 75 35 .int fl_X12_271_14 fp_14_35 hT (tv40 hT) (fun _ => rfl) rfl (Nat.le_of_ble_eq_true rfl) rfl rfl (by first | exact TR.rng hT _ _ _ | exact R31_of _ | exact bi_R _ | (constructor <;> omega)) dX12_looksAt_72 rfl (fun h hT => ?_)
          obtain ⟨X5, hX5⟩ : ∃ Z, Z = xs X4 40 0 35 (X4 40 0 35 + 1) := ⟨_, rfl⟩
          rw [← hX5] at hT
          have hI5 : LO X X5 ∧ X5 40 0 35 = cnt (prM O s) (r + 1) ∧ X5 40 0 36 = s ∧ X5 40 0 37 = bi b ∧ ∀ k : Nat, (k : Int) < cnt (prM O s) (r + 1) → X5 73 0 k = itN (prM O s) k (r + 1) ∧ X5 74 0 k = O 14 (itN (prM O s) k (r + 1)) 1 := ⟨by rw [hX5, hX4, hX3]; exact ((hF.st (Or.inl rfl)).st (Or.inr rfl)).s4 (Or.inl rfl), by rw [hX5, xs_at, if_pos rfl, e4, cnt_s, if_pos hp, hm], by rw [hX5, xs_at, if_neg (by decide), hX4, xs_nk (by decide), hX3, xs_nk (by decide)]; exact i2, by rw [hX5, xs_at, if_neg (by decide), hX4, xs_nk (by decide), hX3, xs_nk (by decide)]; exact i3, fun k hk => by rw [cnt_s, if_pos hp, hm] at hk; rw [hX5, xs_nk (by decide), xs_nk (by decide), hX4, xs_nk (by decide), xs_at, hX3, xs_at, xs_nk (by decide), xs_nk (by decide)]; by_cases e : k = m; (subst e; rw [if_pos rfl, if_pos rfl, itN_at hp hm]; exact ⟨rfl, (rm_rul hMc r (by omega)).2.1⟩); (rw [if_neg e, if_neg e, itN_s (by omega)]; exact i4 k (by omega))⟩
          refine tj_inc3 78 dX12_looksAt_75 rfl (by decide) rfl ?_
          refine ev_goto 17 dX12_looksAt_78 (by decide) ?_
          exact ih17 (r + 1) _ _ _ (by omega) (by first | omega | assumption | omega) (by first | rfl | omega | (omega)) hT (by first | assumption | (first | exact hI0 | exact hI5 | exact ⟨hF, by rw [i1, cnt_s, if_neg (by rw [hnp]; decide), Int.add_zero], i2, i3, fun k hk => by rw [cnt_s, if_neg (by rw [hnp]; decide), Int.add_zero] at hk; rw [itN_s hk]; exact i4 k hk⟩))
  exact lp17 _ (0) _ _ _ (Nat.lt_succ_self _) (by first | omega | assumption | omega) (by first | rfl | omega | (omega)) hT (by first | assumption | (first | exact hI0 | exact hI5 | exact ⟨hF, by rw [i1, cnt_s, if_neg (by rw [hnp]; decide), Int.add_zero], i2, i3, fun k hk => by rw [cnt_s, if_neg (by rw [hnp]; decide), Int.add_zero] at hk; rw [itN_s hk]; exact i4 k hk⟩))
set_option maxRecDepth 100000 in
set_option maxHeartbeats 4000000 in
theorem c_X12_mostOf {g : Gt} {α : AL} {ν : Nat → Nat → Bool} {X : XM} {h : AH} (hT : TR g α ν X h) {O : XM} (hO : WO O) (hM : RM O X) {s : Nat} (hs : (s : Int) < nS O) {b : Bool} : Mu g α ν M_X12_mostOf 5 [.ref (α 40 0), .int (J (s : Int)), .int (J (bi b))] h (some (.int (J (mstV O s b)))) (fun X' => LO X X' ∧ LKr O X' s b (ndR O s)) := by
  refine mu_of rfl rfl (ls := [some (.ref (α 40 0)), some (.int (J (s : Int))), some (.int (J (bi b)))]) rfl (Nat.le_of_ble_eq_true rfl) ?_
  show Ev g M_X12_mostOf 5 0 [some (.ref (α 40 0)), some (.int (J (s : Int))), some (.int (J (bi b)))] [] h 0 0 (UQ g α ν (some (.int (J (mstV O s b)))) (fun X' => LO X X' ∧ LKr O X' s b (ndR O s)))
  have q0 := rm_nC hM
  have q1 := wo_nC hO
  have q2 := rm_nS hM
  have q3 := wo_nS hO
  refine ev_ald0 1 dX12_mostOf_0 rfl ?_
  refine ev_ild1 2 dX12_mostOf_1 rfl ?_
  refine ev_ild2 3 dX12_mostOf_2 rfl ?_
  refine tmv_V2 6 14 dX12_mostOf_3 lkv_X12_283 (tr40 hT) rfl rfl (by first | decide | omega) (Nat.le_of_ble_eq_true rfl) (c_X12_looksAt (b := b) hT hO hM hs) (fun h X1 hT hP3 => ?_)
  have hPl := hP3
  have hMl := hPl.1.rm hM
  refine ev_ald0 7 dX12_mostOf_6 rfl ?_
  refine tj_iconst 8 dX12_mostOf_7 rfl ?_
  refine tj_iconst 9 dX12_mostOf_8 rfl ?_
  refine tm_V2 12 14 dX12_mostOf_9 lkv_X12_287 (tr40 hT) rfl rfl (by first | decide | omega) (Nat.le_of_ble_eq_true rfl) (c_X12_mostFrom hT hO hMl hs hPl.2 (fun k hk => (ndR_R hO hk).2) (fl := 0) (fr := 0) (by decide) (by omega)) (fun h X1 hT hP9 => ?_)
  exact ev_ireturn (uq_i (by first | rfl | omega | exact bi_dt (by omega) | exact bi_df (by omega) | (first | exact mx_nC hO (fr := 0) (by omega) | exact (mx_nC hO (fr := 0) (by omega)).symm)) hT (by exact ⟨hPl.1.s78 hP9, LKr_cg hPl.2 hP9⟩)) rfl dX12_mostOf_12
set_option maxRecDepth 100000 in
set_option maxHeartbeats 4000000 in
theorem c_X12_mostMet_b1 {g : Gt} {α : AL} {ν : Nat → Nat → Bool} {X : XM} {h : AH} (hT : TR g α ν X h) {O : XM} (hO : WO O) (hM : RM O X) {b : Int} (hb : R31 b) (hn : ¬ (0 ≤ b ∧ b < nS O)) : Mu g α ν M_X12_mostMet 26 [.ref (α 40 0), .int (J b)] h (some (.int (J (0)))) (fun X' => X' = xs X 40 0 0 1) := by
  refine mu_of rfl rfl (ls := [some (.ref (α 40 0)), some (.int (J b))]) rfl (Nat.le_of_ble_eq_true rfl) ?_
  show Ev g M_X12_mostMet 26 0 [some (.ref (α 40 0)), some (.int (J b))] [] h 0 0 (UQ g α ν (some (.int (J (0)))) (fun X' => X' = xs X 40 0 0 1))
  have q0 := rm_nC hM
  have q1 := wo_nC hO
  have q2 := rm_nS hM
  have q3 := wo_nS hO
  refine ev_ald0 1 dX12_mostMet_0 rfl ?_
  refine ev_ald0 2 dX12_mostMet_1 rfl ?_
  refine ev_ild1 3 dX12_mostMet_2 rfl ?_
  refine tc_V1 6 14 dX12_mostMet_3 lkv_X12_158 (tr40 hT) rfl rfl (by first | decide | omega) (Nat.le_of_ble_eq_true rfl) (isStudent_no hT hO hM hb hn) ?_
  refine tj_if_eq 13 9 dX12_mostMet_6 (by decide) rfl (by first | exact TR.rng hT _ _ _ | exact R31_of _ | exact bi_R _ | (constructor <;> omega)) (fun c6 => ?_) (fun c6 => ?_)
  · skip
    refine tj_iconst 14 dX12_mostMet_13 rfl ?_
    refine tm_V1 17 14 dX12_mostMet_14 lkv_X12_144 (tr40 hT) rfl rfl (by first | decide | omega) (Nat.le_of_ble_eq_true rfl) (goes_n hT (by omega)) (fun h X1 hT hP14 => ?_)
    have hM1 := hM
    have hM : RM O X1 := by rw [hP14]; exact rm_th hM1 _
    have q0 := rm_nC hM
    have q2 := rm_nS hM
    refine tj_if_eq 29 20 dX12_mostMet_17 (by decide) rfl (by first | exact TR.rng hT _ _ _ | exact R31_of _ | exact bi_R _ | (constructor <;> omega)) (fun c17 => ?_) (fun c17 => ?_)
    · skip
      refine tj_iconst 30 dX12_mostMet_29 rfl ?_
      exact ev_ireturn (uq_i (by first | rfl | omega | exact bi_dt (by omega) | exact bi_df (by omega) | (skip)) hT (by assumption)) rfl dX12_mostMet_30
    · exact False.elim (by omega)
  · exact False.elim (by omega)
set_option maxRecDepth 100000 in
set_option maxHeartbeats 4000000 in
theorem c_X12_mostMet_ok {g : Gt} {α : AL} {ν : Nat → Nat → Bool} {X : XM} {h : AH} (hT : TR g α ν X h) {O : XM} (hO : WO O) (hM : RM O X) {s : Nat} (hs : (s : Int) < nS O) : Mu g α ν M_X12_mostMet 26 [.ref (α 40 0), .int (J (s : Int))] h (some (.int (J (mstV O s false)))) (fun X' => RM O X' ∧ CZ X X' 0) := by
  refine mu_of rfl rfl (ls := [some (.ref (α 40 0)), some (.int (J (s : Int)))]) rfl (Nat.le_of_ble_eq_true rfl) ?_
  show Ev g M_X12_mostMet 26 0 [some (.ref (α 40 0)), some (.int (J (s : Int)))] [] h 0 0 (UQ g α ν (some (.int (J (mstV O s false)))) (fun X' => RM O X' ∧ CZ X X' 0))
  have q0 := rm_nC hM
  have q1 := wo_nC hO
  have q2 := rm_nS hM
  have q3 := wo_nS hO
  refine ev_ald0 1 dX12_mostMet_0 rfl ?_
  refine ev_ald0 2 dX12_mostMet_1 rfl ?_
  refine ev_ild1 3 dX12_mostMet_2 rfl ?_
  refine tc_V1 6 14 dX12_mostMet_3 lkv_X12_158 (tr40 hT) rfl rfl (by first | decide | omega) (Nat.le_of_ble_eq_true rfl) (isStudent_ok hT hO hM (by omega)) ?_
  refine tj_if_eq 13 9 dX12_mostMet_6 (by decide) rfl (by first | exact TR.rng hT _ _ _ | exact R31_of _ | exact bi_R _ | (constructor <;> omega)) (fun c6 => ?_) (fun c6 => ?_)
  · exact False.elim (by omega)
  · skip
    refine tj_iconst 10 dX12_mostMet_9 rfl ?_
    refine ev_goto 14 dX12_mostMet_10 (by decide) ?_
    refine tm_V1 17 14 dX12_mostMet_14 lkv_X12_144 (tr40 hT) rfl rfl (by first | decide | omega) (Nat.le_of_ble_eq_true rfl) (goes_0 hT) (fun h X1 hT hP14 => ?_)
    have hM1 := hM
    have hM : RM O X1 := by rw [hP14]; exact rm_th hM1 _
    have q0 := rm_nC hM
    have q2 := rm_nS hM
    have hC0 : CZ X X1 0 := by rw [hP14]; exact CZ.go X 0
    refine tj_if_eq 29 20 dX12_mostMet_17 (by decide) rfl (by first | exact TR.rng hT _ _ _ | exact R31_of _ | exact bi_R _ | (constructor <;> omega)) (fun c17 => ?_) (fun c17 => ?_)
    · exact False.elim (by omega)
    · skip
      refine ev_ald0 21 dX12_mostMet_20 rfl ?_
      refine ev_ild1 22 dX12_mostMet_21 rfl ?_
      refine tj_iconst 23 dX12_mostMet_22 rfl ?_
      refine tm_V2 26 14 dX12_mostMet_23 lkv_X12_290 (tr40 hT) rfl rfl (by first | decide | omega) (Nat.le_of_ble_eq_true rfl) (c_X12_mostOf (b := false) hT hO hM hs) (fun h X1 hT hP23 => ?_)
      have hMR := hP23.1.rm hM
      have hCR := hP23.1.cz hC0
      refine ev_goto 30 dX12_mostMet_26 (by decide) ?_
      exact ev_ireturn (uq_i (by first | rfl | omega | exact bi_dt (by omega) | exact bi_df (by omega) | (skip)) hT (by exact ⟨hMR, hCR⟩)) rfl dX12_mostMet_30
set_option maxRecDepth 100000 in
set_option maxHeartbeats 4000000 in
theorem c_X12_mostMetIf_b1 {g : Gt} {α : AL} {ν : Nat → Nat → Bool} {X : XM} {h : AH} (hT : TR g α ν X h) {O : XM} (hO : WO O) (hM : RM O X) {b : Int} (hb : R31 b) (hn : ¬ (0 ≤ b ∧ b < nS O)) : Mu g α ν M_X12_mostMetIf 26 [.ref (α 40 0), .int (J b)] h (some (.int (J (0)))) (fun X' => X' = xs X 40 0 0 1) := by
  refine mu_of rfl rfl (ls := [some (.ref (α 40 0)), some (.int (J b))]) rfl (Nat.le_of_ble_eq_true rfl) ?_
  show Ev g M_X12_mostMetIf 26 0 [some (.ref (α 40 0)), some (.int (J b))] [] h 0 0 (UQ g α ν (some (.int (J (0)))) (fun X' => X' = xs X 40 0 0 1))
  have q0 := rm_nC hM
  have q1 := wo_nC hO
  have q2 := rm_nS hM
  have q3 := wo_nS hO
  refine ev_ald0 1 dX12_mostMetIf_0 rfl ?_
  refine ev_ald0 2 dX12_mostMetIf_1 rfl ?_
  refine ev_ild1 3 dX12_mostMetIf_2 rfl ?_
  refine tc_V1 6 14 dX12_mostMetIf_3 lkv_X12_158 (tr40 hT) rfl rfl (by first | decide | omega) (Nat.le_of_ble_eq_true rfl) (isStudent_no hT hO hM hb hn) ?_
  refine tj_if_eq 13 9 dX12_mostMetIf_6 (by decide) rfl (by first | exact TR.rng hT _ _ _ | exact R31_of _ | exact bi_R _ | (constructor <;> omega)) (fun c6 => ?_) (fun c6 => ?_)
  · skip
    refine tj_iconst 14 dX12_mostMetIf_13 rfl ?_
    refine tm_V1 17 14 dX12_mostMetIf_14 lkv_X12_144 (tr40 hT) rfl rfl (by first | decide | omega) (Nat.le_of_ble_eq_true rfl) (goes_n hT (by omega)) (fun h X1 hT hP14 => ?_)
    have hM1 := hM
    have hM : RM O X1 := by rw [hP14]; exact rm_th hM1 _
    have q0 := rm_nC hM
    have q2 := rm_nS hM
    refine tj_if_eq 29 20 dX12_mostMetIf_17 (by decide) rfl (by first | exact TR.rng hT _ _ _ | exact R31_of _ | exact bi_R _ | (constructor <;> omega)) (fun c17 => ?_) (fun c17 => ?_)
    · skip
      refine tj_iconst 30 dX12_mostMetIf_29 rfl ?_
      exact ev_ireturn (uq_i (by first | rfl | omega | exact bi_dt (by omega) | exact bi_df (by omega) | (skip)) hT (by assumption)) rfl dX12_mostMetIf_30
    · exact False.elim (by omega)
  · exact False.elim (by omega)
set_option maxRecDepth 100000 in
set_option maxHeartbeats 4000000 in
theorem c_X12_mostMetIf_ok {g : Gt} {α : AL} {ν : Nat → Nat → Bool} {X : XM} {h : AH} (hT : TR g α ν X h) {O : XM} (hO : WO O) (hM : RM O X) {s : Nat} (hs : (s : Int) < nS O) : Mu g α ν M_X12_mostMetIf 26 [.ref (α 40 0), .int (J (s : Int))] h (some (.int (J (mstV O s true)))) (fun X' => RM O X' ∧ CZ X X' 0) := by
  refine mu_of rfl rfl (ls := [some (.ref (α 40 0)), some (.int (J (s : Int)))]) rfl (Nat.le_of_ble_eq_true rfl) ?_
  show Ev g M_X12_mostMetIf 26 0 [some (.ref (α 40 0)), some (.int (J (s : Int)))] [] h 0 0 (UQ g α ν (some (.int (J (mstV O s true)))) (fun X' => RM O X' ∧ CZ X X' 0))
  have q0 := rm_nC hM
  have q1 := wo_nC hO
  have q2 := rm_nS hM
  have q3 := wo_nS hO
  refine ev_ald0 1 dX12_mostMetIf_0 rfl ?_
  refine ev_ald0 2 dX12_mostMetIf_1 rfl ?_
  refine ev_ild1 3 dX12_mostMetIf_2 rfl ?_
  refine tc_V1 6 14 dX12_mostMetIf_3 lkv_X12_158 (tr40 hT) rfl rfl (by first | decide | omega) (Nat.le_of_ble_eq_true rfl) (isStudent_ok hT hO hM (by omega)) ?_
  refine tj_if_eq 13 9 dX12_mostMetIf_6 (by decide) rfl (by first | exact TR.rng hT _ _ _ | exact R31_of _ | exact bi_R _ | (constructor <;> omega)) (fun c6 => ?_) (fun c6 => ?_)
  · exact False.elim (by omega)
  · skip
    refine tj_iconst 10 dX12_mostMetIf_9 rfl ?_
    refine ev_goto 14 dX12_mostMetIf_10 (by decide) ?_
    refine tm_V1 17 14 dX12_mostMetIf_14 lkv_X12_144 (tr40 hT) rfl rfl (by first | decide | omega) (Nat.le_of_ble_eq_true rfl) (goes_0 hT) (fun h X1 hT hP14 => ?_)
    have hM1 := hM
    have hM : RM O X1 := by rw [hP14]; exact rm_th hM1 _
    have q0 := rm_nC hM
    have q2 := rm_nS hM
    have hC0 : CZ X X1 0 := by rw [hP14]; exact CZ.go X 0
    refine tj_if_eq 29 20 dX12_mostMetIf_17 (by decide) rfl (by first | exact TR.rng hT _ _ _ | exact R31_of _ | exact bi_R _ | (constructor <;> omega)) (fun c17 => ?_) (fun c17 => ?_)
    · exact False.elim (by omega)
    · skip
      refine ev_ald0 21 dX12_mostMetIf_20 rfl ?_
      refine ev_ild1 22 dX12_mostMetIf_21 rfl ?_
      refine tj_iconst 23 dX12_mostMetIf_22 rfl ?_
      refine tm_V2 26 14 dX12_mostMetIf_23 lkv_X12_290 (tr40 hT) rfl rfl (by first | decide | omega) (Nat.le_of_ble_eq_true rfl) (c_X12_mostOf (b := true) hT hO hM hs) (fun h X1 hT hP23 => ?_)
      have hMR := hP23.1.rm hM
      have hCR := hP23.1.cz hC0
      refine ev_goto 30 dX12_mostMetIf_26 (by decide) ?_
      exact ev_ireturn (uq_i (by first | rfl | omega | exact bi_dt (by omega) | exact bi_df (by omega) | (skip)) hT (by exact ⟨hMR, hCR⟩)) rfl dX12_mostMetIf_30
set_option maxRecDepth 100000 in
set_option maxHeartbeats 4000000 in
theorem c_X12_mostMetByTrial_b1 {g : Gt} {α : AL} {ν : Nat → Nat → Bool} {X : XM} {h : AH} (hT : TR g α ν X h) {O : XM} (hO : WO O) (hM : RM O X) {b : Int} (hb : R31 b) (hn : ¬ (0 ≤ b ∧ b < nS O)) : Mu g α ν M_X12_mostMetByTrial 27 [.ref (α 40 0), .int (J b)] h (some (.int (J 0))) (fun X' => X' = xs X 40 0 0 1) := by
  refine mu_of rfl rfl (ls := [some (.ref (α 40 0)), some (.int (J b))]) rfl (Nat.le_of_ble_eq_true rfl) ?_
  show Ev g M_X12_mostMetByTrial 27 0 [some (.ref (α 40 0)), some (.int (J b))] [] h 0 0 (UQ g α ν (some (.int (J 0))) (fun X' => X' = xs X 40 0 0 1))
  refine ev_ald0 1 dX12_mostMetByTrial_0 rfl ?_
  refine ev_ild1 2 dX12_mostMetByTrial_1 rfl ?_
  refine tm_V1 5 14 dX12_mostMetByTrial_2 lkv_X12_294 (tr40 hT) rfl rfl (by first | decide | omega) (Nat.le_of_ble_eq_true rfl) (c_X12_mostMet_b1 hT hO hM hb hn) (fun h X1 hT hP2 => ?_)
  exact ev_ireturn (uq_i (by first | rfl | omega | exact bi_dt (by omega) | exact bi_df (by omega) | (skip)) hT (by exact hP2)) rfl dX12_mostMetByTrial_5
set_option maxRecDepth 100000 in
set_option maxHeartbeats 4000000 in
theorem c_X12_mostMetByTrial_ok {g : Gt} {α : AL} {ν : Nat → Nat → Bool} {X : XM} {h : AH} (hT : TR g α ν X h) {O : XM} (hO : WO O) (hM : RM O X) {s : Nat} (hs : (s : Int) < nS O) : Mu g α ν M_X12_mostMetByTrial 27 [.ref (α 40 0), .int (J (s : Int))] h (some (.int (J (mstV O s false)))) (fun X' => RM O X' ∧ CZ X X' 0) := by
  refine mu_of rfl rfl (ls := [some (.ref (α 40 0)), some (.int (J (s : Int)))]) rfl (Nat.le_of_ble_eq_true rfl) ?_
  show Ev g M_X12_mostMetByTrial 27 0 [some (.ref (α 40 0)), some (.int (J (s : Int)))] [] h 0 0 (UQ g α ν (some (.int (J (mstV O s false)))) (fun X' => RM O X' ∧ CZ X X' 0))
  refine ev_ald0 1 dX12_mostMetByTrial_0 rfl ?_
  refine ev_ild1 2 dX12_mostMetByTrial_1 rfl ?_
  refine tm_V1 5 14 dX12_mostMetByTrial_2 lkv_X12_294 (tr40 hT) rfl rfl (by first | decide | omega) (Nat.le_of_ble_eq_true rfl) (c_X12_mostMet_ok hT hO hM hs) (fun h X1 hT hP2 => ?_)
  exact ev_ireturn (uq_i (by first | rfl | omega | exact bi_dt (by omega) | exact bi_df (by omega) | (skip)) hT (by exact hP2)) rfl dX12_mostMetByTrial_5
set_option maxRecDepth 100000 in
set_option maxHeartbeats 4000000 in
theorem c_X12_lackingOf {g : Gt} {α : AL} {ν : Nat → Nat → Bool} {X : XM} {h : AH} (hT : TR g α ν X h) {O : XM} (hO : WO O) (hM : RM O X) {s : Nat} (hs : (s : Int) < nS O) : Mu g α ν M_X12_lackingOf 6 [.ref (α 40 0), .int (J (s : Int))] h (some (.int (J (lckV O s : Int)))) (fun X' => LO X X') := by
  refine mu_of rfl rfl (ls := [some (.ref (α 40 0)), some (.int (J (s : Int))), none, none, none]) rfl (Nat.le_of_ble_eq_true rfl) ?_
  show Ev g M_X12_lackingOf 6 0 [some (.ref (α 40 0)), some (.int (J (s : Int))), none, none, none] [] h 0 0 (UQ g α ν (some (.int (J (lckV O s : Int)))) (fun X' => LO X X'))
  have q0 := rm_nC hM
  have q1 := wo_nC hO
  have q2 := rm_nS hM
  have q3 := wo_nS hO
  have qn := nsl_4 hO s
  have qV := mstV_R hO s false
  refine ev_ald0 1 dX12_lackingOf_0 rfl ?_
  refine ev_ild1 2 dX12_lackingOf_1 rfl ?_
  refine tj_iconst 3 dX12_lackingOf_2 rfl ?_
  refine tm_V2 6 14 dX12_lackingOf_3 lkv_X12_290 (tr40 hT) rfl rfl (by first | decide | omega) (Nat.le_of_ble_eq_true rfl) (c_X12_mostOf (b := false) hT hO hM hs) (fun h X1 hT hP3 => ?_)
  refine ev_ist2 7 dX12_lackingOf_6 rfl (by decide) rfl ?_
  refine tj_iconst 8 dX12_lackingOf_7 rfl ?_
  refine ev_ist3 9 dX12_lackingOf_8 rfl (by decide) rfl ?_
  refine tj_iconst 10 dX12_lackingOf_9 rfl ?_
  refine ev_ist4 12 dX12_lackingOf_10 rfl (by decide) rfl ?_
  have lp12 : ∀ (n12 : Nat) (k : Nat) (z3 : Int) (z4 : Int)  (h : AH) (X2 : XM), 5 - k < n12 → (k ≤ nsl O s) → z3 = (lkV (itR O s) (shp O s) k : Int) → z4 = (k : Int) → TR g α ν X2 h → (LO X X2 ∧ LKr O X2 s false (ndR O s)) → Ev g M_X12_lackingOf 6 12 [some (.ref (α 40 0)), some (.int (J (s : Int))), some (.int (J (mstV O s false))), some (.int (J z3)), some (.int (J z4))] [] h 0 0 (UQ g α ν (some (.int (J (lckV O s : Int)))) (fun X' => LO X X')) := by
    intro n12
    induction n12 with
    | zero => intro k z3 z4 h X2 hm; exact absurd hm (Nat.not_lt_zero _)
    | succ n12 ih12 =>
      intro k z3 z4 h X2 hm12 hk e3 e4 hT hI
      subst e3
      subst e4
      obtain ⟨hF2, hL2⟩ := hI
      have l1 := hL2.1
      have qlk := lckV_lt hO s k hk
      refine ev_ild4 14 dX12_lackingOf_12 rfl ?_
      refine ev_ald0 15 dX12_lackingOf_14 rfl ?_
      refine ev_getfield 18 14 35 fl_X12_271_14 (tr40 hT) rfl dX12_lackingOf_15 rfl ?_
      refine tj_icmp_ge 75 21 dX12_lackingOf_18 (by decide) rfl (by first | exact TR.rng hT _ _ _ | exact R31_of _ | exact bi_R _ | (constructor <;> omega)) (by first | exact TR.rng hT _ _ _ | exact R31_of _ | exact bi_R _ | (constructor <;> omega)) (fun c18 => ?_) (fun c18 => ?_)
      · skip
        refine ev_ild3 76 dX12_lackingOf_75 rfl ?_
        exact ev_ireturn (uq_i (by first | rfl | omega | exact bi_dt (by omega) | exact bi_df (by omega) | (unfold lckV; rw [show k = nsl O s by omega])) hT (by exact hF2)) rfl dX12_lackingOf_76
      · skip
        have hkk : k < nsl O s := by omega
        have l4 := hL2.2.2.2 k hkk
        have qnd := ndR_R hO hkk
        have qit := itR_p hO hkk
        have qnR := wo_nR hO
        refine ev_ald0 22 dX12_lackingOf_21 rfl ?_
        refine ev_getfield 25 14 34 fl_X12_82_14 (tr40 hT) rfl dX12_lackingOf_22 rfl ?_
        refine ev_ild4 27 dX12_lackingOf_25 rfl ?_
        refine ev_dup2 28 dX12_lackingOf_27 rfl rfl rfl ?_
        refine tv_iald 29 (tr74 hT) (k) (by omega) (by omega) (by omega) dX12_lackingOf_28 rfl ?_
        refine tj_iconst 30 dX12_lackingOf_29 rfl ?_
        refine tj_isub 31 dX12_lackingOf_30 rfl ?_
        refine tv_iast 32 hT (tv74 hT) (fun _ => rfl) (k) (by omega) (by omega) (by omega) (by first | exact TR.rng hT _ _ _ | exact R31_of _ | exact bi_R _ | (constructor <;> omega)) dX12_lackingOf_31 rfl (fun h hT => ?_)
        obtain ⟨X3, hX3⟩ : ∃ Z, Z = xs X2 74 0 k (X2 74 0 k - 1) := ⟨_, rfl⟩
        rw [← hX3] at hT
        have hF3 : LO X X3 := by rw [hX3]; exact hF2.st (Or.inr rfl)
        have hL3 : LKr O X3 s false (rm1 (ndR O s) k) := by rw [hX3]; exact LKr_st hL2 (fun j hj => by unfold rm1; by_cases e : j = k; (subst e; rw [if_pos rfl, if_pos rfl, l4.2]); (rw [if_neg e, if_neg e]))
        have hM3 : RM O X3 := hF3.rm hM
        refine ev_ild3 33 dX12_lackingOf_32 rfl ?_
        refine ev_ald0 34 dX12_lackingOf_33 rfl ?_
        refine tj_iconst 35 dX12_lackingOf_34 rfl ?_
        refine tj_iconst 36 dX12_lackingOf_35 rfl ?_
        refine tm_V2 39 14 dX12_lackingOf_36 lkv_X12_287 (tr40 hT) rfl rfl (by first | decide | omega) (Nat.le_of_ble_eq_true rfl) (c_X12_mostFrom hT hO hM3 hs hL3 (fun j hj => (rm1_R hO s k j hj).2) (fl := 0) (fr := 0) (by decide) (by omega)) (fun h X1 hT hP36 => ?_)
        have hF4 : LO X X1 := hF3.s78 hP36
        have hL4 : LKr O X1 s false (rm1 (ndR O s) k) := LKr_cg hL3 hP36
        have l44 := hL4.2.2.2 k hkk
        have hmx := mx_nC hO (s := s) (b := false) (rm := rm1 (ndR O s) k) (fr := 0) (fl := 0) (by omega)
        have hmR := mx_R (m := nsl O s) (fit := ftR O s false) (rm := rm1 (ndR O s) k) (fr := 0) (fl := 0) (i := (nC O).toNat - 0) qn (fun j hj => (rm1_R hO s k j hj).2) (by decide)
        have er1 : rm1 (ndR O s) k k = ndR O s k - 1 := by unfold rm1; rw [if_pos rfl]
        refine ev_ild2 40 dX12_lackingOf_39 rfl ?_
        refine tj_icmp_ne 55 43 dX12_lackingOf_40 (by decide) rfl (by first | exact TR.rng hT _ _ _ | exact R31_of _ | exact bi_R _ | (constructor <;> omega)) (by first | exact TR.rng hT _ _ _ | exact R31_of _ | exact bi_R _ | (constructor <;> omega)) (fun c40 => ?_) (fun c40 => ?_)
        · skip
          have hshp : shp O s k = false := decide_eq_false (fun z => c40 (hmx.trans z))
          refine tj_iconst 56 dX12_lackingOf_55 rfl ?_
          refine tj_iadd 57 dX12_lackingOf_56 rfl ?_
          refine ev_ist3 58 dX12_lackingOf_57 rfl (by decide) rfl ?_
          refine ev_ald0 59 dX12_lackingOf_58 rfl ?_
          refine ev_getfield 62 14 34 fl_X12_82_14 (tr40 hT) rfl dX12_lackingOf_59 rfl ?_
          refine ev_ild4 64 dX12_lackingOf_62 rfl ?_
          refine ev_dup2 65 dX12_lackingOf_64 rfl rfl rfl ?_
          refine tv_iald 66 (tr74 hT) (k) (by omega) (by omega) (by omega) dX12_lackingOf_65 rfl ?_
          refine tj_iconst 67 dX12_lackingOf_66 rfl ?_
          refine tj_iadd 68 dX12_lackingOf_67 rfl ?_
          refine tv_iast 69 hT (tv74 hT) (fun _ => rfl) (k) (by omega) (by omega) (by omega) (by first | exact TR.rng hT _ _ _ | exact R31_of _ | exact bi_R _ | (constructor <;> omega)) dX12_lackingOf_68 rfl (fun h hT => ?_)
          obtain ⟨X5, hX5⟩ : ∃ Z, Z = xs X1 74 0 k (X1 74 0 k + 1) := ⟨_, rfl⟩
          rw [← hX5] at hT
          have hF5 : LO X X5 := by rw [hX5]; exact hF4.st (Or.inr rfl)
          have hL5 : LKr O X5 s false (ndR O s) := by rw [hX5]; exact LKr_st hL4 (fun j hj => by unfold rm1; by_cases e : j = k; (subst e; rw [if_pos rfl, l44.2, er1]; omega); (rw [if_neg e, if_neg e]))
          refine tj_inc4 72 dX12_lackingOf_69 rfl (by decide) rfl ?_
          refine ev_goto 12 dX12_lackingOf_72 (by decide) ?_
          exact ih12 (k + 1) _ _ _ _ (by omega) (by first | omega | assumption | omega) (by first | rfl | omega | (first | rfl | (rw [lkV, hshp]; simp; done) | (rw [lkV, hshp, if_pos rfl]; omega) | (rw [lkV, hshp, if_neg (by decide)]; omega))) (by first | rfl | omega | (first | rfl | (rw [lkV, hshp]; simp; done) | (rw [lkV, hshp, if_pos rfl]; omega) | (rw [lkV, hshp, if_neg (by decide)]; omega))) hT (by first | assumption | (first | exact hP3 | exact ⟨hF5, hL5⟩))
        · skip
          have hshp : shp O s k = true := decide_eq_true (hmx.symm.trans c40)
          have hsh : (1 : Nat) <<< itR O s k ≤ 65536 := by rw [Nat.one_shiftLeft]; exact Nat.pow_le_pow_right (n := 2) (by decide) (show itR O s k ≤ 16 by omega)
          refine tj_iconst 44 dX12_lackingOf_43 rfl ?_
          refine ev_ald0 45 dX12_lackingOf_44 rfl ?_
          refine ev_getfield 48 14 33 fl_X12_79_14 (tr40 hT) rfl dX12_lackingOf_45 rfl ?_
          refine ev_ild4 50 dX12_lackingOf_48 rfl ?_
          refine tv_iald 51 (tr73 hT) (k) (by omega) (by omega) (by omega) dX12_lackingOf_50 rfl ?_
          refine tj_ishl 52 dX12_lackingOf_51 1 (itR O s k) rfl l44.1 (by omega) rfl ?_
          refine ev_goto 56 dX12_lackingOf_52 (by decide) ?_
          refine tj_iadd 57 dX12_lackingOf_56 rfl ?_
          refine ev_ist3 58 dX12_lackingOf_57 rfl (by decide) rfl ?_
          refine ev_ald0 59 dX12_lackingOf_58 rfl ?_
          refine ev_getfield 62 14 34 fl_X12_82_14 (tr40 hT) rfl dX12_lackingOf_59 rfl ?_
          refine ev_ild4 64 dX12_lackingOf_62 rfl ?_
          refine ev_dup2 65 dX12_lackingOf_64 rfl rfl rfl ?_
          refine tv_iald 66 (tr74 hT) (k) (by omega) (by omega) (by omega) dX12_lackingOf_65 rfl ?_
          refine tj_iconst 67 dX12_lackingOf_66 rfl ?_
          refine tj_iadd 68 dX12_lackingOf_67 rfl ?_
          refine tv_iast 69 hT (tv74 hT) (fun _ => rfl) (k) (by omega) (by omega) (by omega) (by first | exact TR.rng hT _ _ _ | exact R31_of _ | exact bi_R _ | (constructor <;> omega)) dX12_lackingOf_68 rfl (fun h hT => ?_)
          obtain ⟨X5, hX5⟩ : ∃ Z, Z = xs X1 74 0 k (X1 74 0 k + 1) := ⟨_, rfl⟩
          rw [← hX5] at hT
          have hF5 : LO X X5 := by rw [hX5]; exact hF4.st (Or.inr rfl)
          have hL5 : LKr O X5 s false (ndR O s) := by rw [hX5]; exact LKr_st hL4 (fun j hj => by unfold rm1; by_cases e : j = k; (subst e; rw [if_pos rfl, l44.2, er1]; omega); (rw [if_neg e, if_neg e]))
          refine tj_inc4 72 dX12_lackingOf_69 rfl (by decide) rfl ?_
          refine ev_goto 12 dX12_lackingOf_72 (by decide) ?_
          exact ih12 (k + 1) _ _ _ _ (by omega) (by first | omega | assumption | omega) (by first | rfl | omega | (first | rfl | (rw [lkV, hshp]; simp; done) | (rw [lkV, hshp, if_pos rfl]; omega) | (rw [lkV, hshp, if_neg (by decide)]; omega))) (by first | rfl | omega | (first | rfl | (rw [lkV, hshp]; simp; done) | (rw [lkV, hshp, if_pos rfl]; omega) | (rw [lkV, hshp, if_neg (by decide)]; omega))) hT (by first | assumption | (first | exact hP3 | exact ⟨hF5, hL5⟩))
  exact lp12 _ (0) _ _ _ _ (Nat.lt_succ_self _) (by first | omega | assumption | omega) (by first | rfl | omega | (first | rfl | (rw [lkV, hshp]; simp; done) | (rw [lkV, hshp, if_pos rfl]; omega) | (rw [lkV, hshp, if_neg (by decide)]; omega))) (by first | rfl | omega | (first | rfl | (rw [lkV, hshp]; simp; done) | (rw [lkV, hshp, if_pos rfl]; omega) | (rw [lkV, hshp, if_neg (by decide)]; omega))) hT (by first | assumption | (first | exact hP3 | exact ⟨hF5, hL5⟩))
set_option maxRecDepth 100000 in
set_option maxHeartbeats 4000000 in
theorem c_X12_lackingRules_b1 {g : Gt} {α : AL} {ν : Nat → Nat → Bool} {X : XM} {h : AH} (hT : TR g α ν X h) {O : XM} (hO : WO O) (hM : RM O X) {b : Int} (hb : R31 b) (hn : ¬ (0 ≤ b ∧ b < nS O)) : Mu g α ν M_X12_lackingRules 26 [.ref (α 40 0), .int (J b)] h (some (.int (J (0)))) (fun X' => X' = xs X 40 0 0 1) := by
  refine mu_of rfl rfl (ls := [some (.ref (α 40 0)), some (.int (J b))]) rfl (Nat.le_of_ble_eq_true rfl) ?_
  show Ev g M_X12_lackingRules 26 0 [some (.ref (α 40 0)), some (.int (J b))] [] h 0 0 (UQ g α ν (some (.int (J (0)))) (fun X' => X' = xs X 40 0 0 1))
  have q0 := rm_nC hM
  have q1 := wo_nC hO
  have q2 := rm_nS hM
  have q3 := wo_nS hO
  refine ev_ald0 1 dX12_lackingRules_0 rfl ?_
  refine ev_ald0 2 dX12_lackingRules_1 rfl ?_
  refine ev_ild1 3 dX12_lackingRules_2 rfl ?_
  refine tc_V1 6 14 dX12_lackingRules_3 lkv_X12_158 (tr40 hT) rfl rfl (by first | decide | omega) (Nat.le_of_ble_eq_true rfl) (isStudent_no hT hO hM hb hn) ?_
  refine tj_if_eq 13 9 dX12_lackingRules_6 (by decide) rfl (by first | exact TR.rng hT _ _ _ | exact R31_of _ | exact bi_R _ | (constructor <;> omega)) (fun c6 => ?_) (fun c6 => ?_)
  · skip
    refine tj_iconst 14 dX12_lackingRules_13 rfl ?_
    refine tm_V1 17 14 dX12_lackingRules_14 lkv_X12_144 (tr40 hT) rfl rfl (by first | decide | omega) (Nat.le_of_ble_eq_true rfl) (goes_n hT (by omega)) (fun h X1 hT hP14 => ?_)
    have hM1 := hM
    have hM : RM O X1 := by rw [hP14]; exact rm_th hM1 _
    have q0 := rm_nC hM
    have q2 := rm_nS hM
    refine tj_if_eq 28 20 dX12_lackingRules_17 (by decide) rfl (by first | exact TR.rng hT _ _ _ | exact R31_of _ | exact bi_R _ | (constructor <;> omega)) (fun c17 => ?_) (fun c17 => ?_)
    · skip
      refine tj_iconst 29 dX12_lackingRules_28 rfl ?_
      exact ev_ireturn (uq_i (by first | rfl | omega | exact bi_dt (by omega) | exact bi_df (by omega) | (skip)) hT (by assumption)) rfl dX12_lackingRules_29
    · exact False.elim (by omega)
  · exact False.elim (by omega)
set_option maxRecDepth 100000 in
set_option maxHeartbeats 4000000 in
theorem c_X12_lackingRules_ok {g : Gt} {α : AL} {ν : Nat → Nat → Bool} {X : XM} {h : AH} (hT : TR g α ν X h) {O : XM} (hO : WO O) (hM : RM O X) {s : Nat} (hs : (s : Int) < nS O) : Mu g α ν M_X12_lackingRules 26 [.ref (α 40 0), .int (J (s : Int))] h (some (.int (J ((lckV O s : Int))))) (fun X' => RM O X' ∧ CZ X X' 0) := by
  refine mu_of rfl rfl (ls := [some (.ref (α 40 0)), some (.int (J (s : Int)))]) rfl (Nat.le_of_ble_eq_true rfl) ?_
  show Ev g M_X12_lackingRules 26 0 [some (.ref (α 40 0)), some (.int (J (s : Int)))] [] h 0 0 (UQ g α ν (some (.int (J ((lckV O s : Int))))) (fun X' => RM O X' ∧ CZ X X' 0))
  have q0 := rm_nC hM
  have q1 := wo_nC hO
  have q2 := rm_nS hM
  have q3 := wo_nS hO
  refine ev_ald0 1 dX12_lackingRules_0 rfl ?_
  refine ev_ald0 2 dX12_lackingRules_1 rfl ?_
  refine ev_ild1 3 dX12_lackingRules_2 rfl ?_
  refine tc_V1 6 14 dX12_lackingRules_3 lkv_X12_158 (tr40 hT) rfl rfl (by first | decide | omega) (Nat.le_of_ble_eq_true rfl) (isStudent_ok hT hO hM (by omega)) ?_
  refine tj_if_eq 13 9 dX12_lackingRules_6 (by decide) rfl (by first | exact TR.rng hT _ _ _ | exact R31_of _ | exact bi_R _ | (constructor <;> omega)) (fun c6 => ?_) (fun c6 => ?_)
  · exact False.elim (by omega)
  · skip
    refine tj_iconst 10 dX12_lackingRules_9 rfl ?_
    refine ev_goto 14 dX12_lackingRules_10 (by decide) ?_
    refine tm_V1 17 14 dX12_lackingRules_14 lkv_X12_144 (tr40 hT) rfl rfl (by first | decide | omega) (Nat.le_of_ble_eq_true rfl) (goes_0 hT) (fun h X1 hT hP14 => ?_)
    have hM1 := hM
    have hM : RM O X1 := by rw [hP14]; exact rm_th hM1 _
    have q0 := rm_nC hM
    have q2 := rm_nS hM
    have hC0 : CZ X X1 0 := by rw [hP14]; exact CZ.go X 0
    refine tj_if_eq 28 20 dX12_lackingRules_17 (by decide) rfl (by first | exact TR.rng hT _ _ _ | exact R31_of _ | exact bi_R _ | (constructor <;> omega)) (fun c17 => ?_) (fun c17 => ?_)
    · exact False.elim (by omega)
    · skip
      refine ev_ald0 21 dX12_lackingRules_20 rfl ?_
      refine ev_ild1 22 dX12_lackingRules_21 rfl ?_
      refine tm_V1 25 14 dX12_lackingRules_22 lkv_X12_297 (tr40 hT) rfl rfl (by first | decide | omega) (Nat.le_of_ble_eq_true rfl) (c_X12_lackingOf hT hO hM hs) (fun h X1 hT hP22 => ?_)
      have hMR := hP22.rm hM
      have hCR := hP22.cz hC0
      refine ev_goto 29 dX12_lackingRules_25 (by decide) ?_
      exact ev_ireturn (uq_i (by first | rfl | omega | exact bi_dt (by omega) | exact bi_df (by omega) | (skip)) hT (by exact ⟨hMR, hCR⟩)) rfl dX12_lackingRules_29
set_option maxRecDepth 100000 in
set_option maxHeartbeats 4000000 in
theorem c_X12_lackingByTrial_b1 {g : Gt} {α : AL} {ν : Nat → Nat → Bool} {X : XM} {h : AH} (hT : TR g α ν X h) {O : XM} (hO : WO O) (hM : RM O X) {b : Int} (hb : R31 b) (hn : ¬ (0 ≤ b ∧ b < nS O)) : Mu g α ν M_X12_lackingByTrial 27 [.ref (α 40 0), .int (J b)] h (some (.int (J 0))) (fun X' => X' = xs X 40 0 0 1) := by
  refine mu_of rfl rfl (ls := [some (.ref (α 40 0)), some (.int (J b))]) rfl (Nat.le_of_ble_eq_true rfl) ?_
  show Ev g M_X12_lackingByTrial 27 0 [some (.ref (α 40 0)), some (.int (J b))] [] h 0 0 (UQ g α ν (some (.int (J 0))) (fun X' => X' = xs X 40 0 0 1))
  refine ev_ald0 1 dX12_lackingByTrial_0 rfl ?_
  refine ev_ild1 2 dX12_lackingByTrial_1 rfl ?_
  refine tm_V1 5 14 dX12_lackingByTrial_2 lkv_X12_300 (tr40 hT) rfl rfl (by first | decide | omega) (Nat.le_of_ble_eq_true rfl) (c_X12_lackingRules_b1 hT hO hM hb hn) (fun h X1 hT hP2 => ?_)
  exact ev_ireturn (uq_i (by first | rfl | omega | exact bi_dt (by omega) | exact bi_df (by omega) | (skip)) hT (by exact hP2)) rfl dX12_lackingByTrial_5
set_option maxRecDepth 100000 in
set_option maxHeartbeats 4000000 in
theorem c_X12_lackingByTrial_ok {g : Gt} {α : AL} {ν : Nat → Nat → Bool} {X : XM} {h : AH} (hT : TR g α ν X h) {O : XM} (hO : WO O) (hM : RM O X) {s : Nat} (hs : (s : Int) < nS O) : Mu g α ν M_X12_lackingByTrial 27 [.ref (α 40 0), .int (J (s : Int))] h (some (.int (J (lckV O s : Int)))) (fun X' => RM O X' ∧ CZ X X' 0) := by
  refine mu_of rfl rfl (ls := [some (.ref (α 40 0)), some (.int (J (s : Int)))]) rfl (Nat.le_of_ble_eq_true rfl) ?_
  show Ev g M_X12_lackingByTrial 27 0 [some (.ref (α 40 0)), some (.int (J (s : Int)))] [] h 0 0 (UQ g α ν (some (.int (J (lckV O s : Int)))) (fun X' => RM O X' ∧ CZ X X' 0))
  refine ev_ald0 1 dX12_lackingByTrial_0 rfl ?_
  refine ev_ild1 2 dX12_lackingByTrial_1 rfl ?_
  refine tm_V1 5 14 dX12_lackingByTrial_2 lkv_X12_300 (tr40 hT) rfl rfl (by first | decide | omega) (Nat.le_of_ble_eq_true rfl) (c_X12_lackingRules_ok hT hO hM hs) (fun h X1 hT hP2 => ?_)
  exact ev_ireturn (uq_i (by first | rfl | omega | exact bi_dt (by omega) | exact bi_df (by omega) | (skip)) hT (by exact hP2)) rfl dX12_lackingByTrial_5
set_option maxRecDepth 100000 in
set_option maxHeartbeats 4000000 in
theorem c_X12_canGraduate_b1 {g : Gt} {α : AL} {ν : Nat → Nat → Bool} {X : XM} {h : AH} (hT : TR g α ν X h) {O : XM} (hO : WO O) (hM : RM O X) {b : Int} (hb : R31 b) (hn : ¬ (0 ≤ b ∧ b < nS O)) : Mu g α ν M_X12_canGraduate 27 [.ref (α 40 0), .int (J b)] h (some (.int (J (bi false)))) (fun X' => X' = xs X 40 0 0 1) := by
  refine mu_of rfl rfl (ls := [some (.ref (α 40 0)), some (.int (J b)), none, none, none]) rfl (Nat.le_of_ble_eq_true rfl) ?_
  show Ev g M_X12_canGraduate 27 0 [some (.ref (α 40 0)), some (.int (J b)), none, none, none] [] h 0 0 (UQ g α ν (some (.int (J (bi false)))) (fun X' => X' = xs X 40 0 0 1))
  have q0 := rm_nC hM
  have q1 := wo_nC hO
  have q2 := rm_nS hM
  have q3 := wo_nS hO
  refine ev_ald0 1 dX12_canGraduate_0 rfl ?_
  refine ev_ald0 2 dX12_canGraduate_1 rfl ?_
  refine ev_ild1 3 dX12_canGraduate_2 rfl ?_
  refine tc_V1 6 14 dX12_canGraduate_3 lkv_X12_158 (tr40 hT) rfl rfl (by first | decide | omega) (Nat.le_of_ble_eq_true rfl) (isStudent_no hT hO hM hb hn) ?_
  refine tj_if_eq 13 9 dX12_canGraduate_6 (by decide) rfl (by first | exact TR.rng hT _ _ _ | exact R31_of _ | exact bi_R _ | (constructor <;> omega)) (fun c6 => ?_) (fun c6 => ?_)
  · skip
    refine tj_iconst 14 dX12_canGraduate_13 rfl ?_
    refine tm_V1 17 14 dX12_canGraduate_14 lkv_X12_144 (tr40 hT) rfl rfl (by first | decide | omega) (Nat.le_of_ble_eq_true rfl) (goes_n hT (by omega)) (fun h X1 hT hP14 => ?_)
    have hM1 := hM
    have hM : RM O X1 := by rw [hP14]; exact rm_th hM1 _
    have q0 := rm_nC hM
    have q2 := rm_nS hM
    refine tj_if_ne 22 20 dX12_canGraduate_17 (by decide) rfl (by first | exact TR.rng hT _ _ _ | exact R31_of _ | exact bi_R _ | (constructor <;> omega)) (fun c17 => ?_) (fun c17 => ?_)
    · exact False.elim (by omega)
    · skip
      refine tj_iconst 21 dX12_canGraduate_20 rfl ?_
      exact tz_retU (by first | rfl | omega | exact bi_dt (by omega) | exact bi_df (by omega) | (skip)) hT (by assumption) rfl dX12_canGraduate_21
  · exact False.elim (by omega)
theorem sK_nd {O : XM} (hO : WO O) (s : Nat) : ∀ n, n ≤ nsl O s → 0 ≤ sK (ndR O s) n ∧ sK (ndR O s) n ≤ 3 * n
  | 0, _ => ⟨Int.le_refl 0, Int.le_refl 0⟩
  | n + 1, h => by
    have a := sK_nd hO s n (by omega)
    have b := ndR_R hO (show n < nsl O s by omega)
    rw [sK]
    omega
noncomputable def grdV (O : XM) (s : Nat) : Bool := decide (mstV O s false = sK (ndR O s) (nsl O s)) && decide (O 3 0 (O 4 s 0).toNat ≤ ernd O s)
set_option maxRecDepth 100000 in
set_option maxHeartbeats 4000000 in
theorem c_X12_canGraduate_ok {g : Gt} {α : AL} {ν : Nat → Nat → Bool} {X : XM} {h : AH} (hT : TR g α ν X h) {O : XM} (hO : WO O) (hM : RM O X) {s : Nat} (hs : (s : Int) < nS O) : Mu g α ν M_X12_canGraduate 27 [.ref (α 40 0), .int (J (s : Int))] h (some (.int (J (bi (grdV O s))))) (fun X' => RM O X' ∧ CZ X X' 0) := by
  refine mu_of rfl rfl (ls := [some (.ref (α 40 0)), some (.int (J (s : Int))), none, none, none]) rfl (Nat.le_of_ble_eq_true rfl) ?_
  show Ev g M_X12_canGraduate 27 0 [some (.ref (α 40 0)), some (.int (J (s : Int))), none, none, none] [] h 0 0 (UQ g α ν (some (.int (J (bi (grdV O s))))) (fun X' => RM O X' ∧ CZ X X' 0))
  have q0 := rm_nC hM
  have q1 := wo_nC hO
  have q2 := rm_nS hM
  have q3 := wo_nS hO
  have qn := nsl_4 hO s
  have qV := mstV_R hO s false
  have q5 := wo_maj hO s hs
  refine ev_ald0 1 dX12_canGraduate_0 rfl ?_
  refine ev_ald0 2 dX12_canGraduate_1 rfl ?_
  refine ev_ild1 3 dX12_canGraduate_2 rfl ?_
  refine tc_V1 6 14 dX12_canGraduate_3 lkv_X12_158 (tr40 hT) rfl rfl (by first | decide | omega) (Nat.le_of_ble_eq_true rfl) (isStudent_ok hT hO hM (by omega)) ?_
  refine tj_if_eq 13 9 dX12_canGraduate_6 (by decide) rfl (by first | exact TR.rng hT _ _ _ | exact R31_of _ | exact bi_R _ | (constructor <;> omega)) (fun c6 => ?_) (fun c6 => ?_)
  · exact False.elim (by omega)
  · skip
    refine tj_iconst 10 dX12_canGraduate_9 rfl ?_
    refine ev_goto 14 dX12_canGraduate_10 (by decide) ?_
    refine tm_V1 17 14 dX12_canGraduate_14 lkv_X12_144 (tr40 hT) rfl rfl (by first | decide | omega) (Nat.le_of_ble_eq_true rfl) (goes_0 hT) (fun h X1 hT hP14 => ?_)
    have hM1 := hM
    have hM : RM O X1 := by rw [hP14]; exact rm_th hM1 _
    have q0 := rm_nC hM
    have q2 := rm_nS hM
    have hC0 : CZ X X1 0 := by rw [hP14]; exact CZ.go X 0
    refine tj_if_ne 22 20 dX12_canGraduate_17 (by decide) rfl (by first | exact TR.rng hT _ _ _ | exact R31_of _ | exact bi_R _ | (constructor <;> omega)) (fun c17 => ?_) (fun c17 => ?_)
    · skip
      refine ev_ald0 23 dX12_canGraduate_22 rfl ?_
      refine ev_ild1 24 dX12_canGraduate_23 rfl ?_
      refine tj_iconst 25 dX12_canGraduate_24 rfl ?_
      refine tm_V2 28 14 dX12_canGraduate_25 lkv_X12_290 (tr40 hT) rfl rfl (by first | decide | omega) (Nat.le_of_ble_eq_true rfl) (c_X12_mostOf (b := false) hT hO hM hs) (fun h X1 hT hP25 => ?_)
      have hMR := hP25.1.rm hM
      have hCR := hP25.1.cz hC0
      have hLR := hP25.2
      have l1 := hLR.1
      have q4 := rm_maj hMR s hs
      obtain ⟨mj, hmj⟩ : ∃ mj : Nat, O 4 s 0 = (mj : Int) := ⟨(O 4 s 0).toNat, by omega⟩
      have qdg := rm_deg hMR mj (by omega)
      have qdg2 := wo_deg hO mj (by omega)
      have qe : 0 ≤ ernd O s ∧ ernd O s ≤ 6 * ((nC O).toNat : Int) := crS_0 hO (psd O s) (nC O).toNat (by omega)
      have hmj2 : (O 4 s 0).toNat = mj := by omega
      refine ev_ist2 29 dX12_canGraduate_28 rfl (by decide) rfl ?_
      refine tj_iconst 30 dX12_canGraduate_29 rfl ?_
      refine ev_ist3 31 dX12_canGraduate_30 rfl (by decide) rfl ?_
      refine tj_iconst 32 dX12_canGraduate_31 rfl ?_
      refine ev_ist4 34 dX12_canGraduate_32 rfl (by decide) rfl ?_
      have lp34 : ∀ (n34 : Nat) (k : Nat) (z3 : Int) (z4 : Int) , 5 - k < n34 → (k ≤ nsl O s) → z3 = sK (ndR O s) k → z4 = (k : Int) → Ev g M_X12_canGraduate 27 34 [some (.ref (α 40 0)), some (.int (J (s : Int))), some (.int (J (mstV O s false))), some (.int (J z3)), some (.int (J z4))] [] h 0 0 (UQ g α ν (some (.int (J (bi (grdV O s))))) (fun X' => RM O X' ∧ CZ X X' 0)) := by
        intro n34
        induction n34 with
        | zero => intro k z3 z4 hm; exact absurd hm (Nat.not_lt_zero _)
        | succ n34 ih34 =>
          intro k z3 z4 hm34 hk e3 e4
          subst e3
          subst e4
          have qsk := sK_nd hO s k hk
          refine ev_ild4 36 dX12_canGraduate_34 rfl ?_
          refine ev_ald0 37 dX12_canGraduate_36 rfl ?_
          refine ev_getfield 40 14 35 fl_X12_271_14 (tr40 hT) rfl dX12_canGraduate_37 rfl ?_
          refine tj_icmp_ge 59 43 dX12_canGraduate_40 (by decide) rfl (by first | exact TR.rng hT _ _ _ | exact R31_of _ | exact bi_R _ | (constructor <;> omega)) (by first | exact TR.rng hT _ _ _ | exact R31_of _ | exact bi_R _ | (constructor <;> omega)) (fun c40 => ?_) (fun c40 => ?_)
          · skip
            obtain rfl : k = nsl O s := by omega
            refine ev_ild2 60 dX12_canGraduate_59 rfl ?_
            refine ev_ild3 61 dX12_canGraduate_60 rfl ?_
            refine tj_icmp_ne 87 64 dX12_canGraduate_61 (by decide) rfl (by first | exact TR.rng hT _ _ _ | exact R31_of _ | exact bi_R _ | (constructor <;> omega)) (by first | exact TR.rng hT _ _ _ | exact R31_of _ | exact bi_R _ | (constructor <;> omega)) (fun c61 => ?_) (fun c61 => ?_)
            · skip
              refine tj_iconst 88 dX12_canGraduate_87 rfl ?_
              exact tz_retU (by first | rfl | omega | exact bi_dt (by omega) | exact bi_df (by omega) | (unfold grdV; rw [hmj2]; first | (rw [decide_eq_false (by omega)]; rfl) | (rw [decide_eq_true (by omega), decide_eq_true (by omega)]; rfl) | (rw [decide_eq_true (by omega), decide_eq_false (by omega)]; rfl))) hT (by exact ⟨hMR, hCR⟩) rfl dX12_canGraduate_88
            · skip
              refine ev_ald0 65 dX12_canGraduate_64 rfl ?_
              refine ev_ild1 66 dX12_canGraduate_65 rfl ?_
              refine tc_V1 69 14 dX12_canGraduate_66 lkv_X12_127 (tr40 hT) rfl rfl (by first | decide | omega) (Nat.le_of_ble_eq_true rfl) (c_X12_earnedOf hT hO hMR hs) ?_
              refine ev_ald0 70 dX12_canGraduate_69 rfl ?_
              refine ev_getfield 73 14 28 fl_X12_73_14 (tr40 hT) rfl dX12_canGraduate_70 rfl ?_
              refine ev_ald0 74 dX12_canGraduate_73 rfl ?_
              refine ev_getfield 77 14 11 fl_X12_28_14 (tr40 hT) rfl dX12_canGraduate_74 rfl ?_
              refine ev_ild1 78 dX12_canGraduate_77 rfl ?_
              refine tv_iald 79 (tr51 hT) (s) (by omega) (by omega) (by omega) dX12_canGraduate_78 rfl ?_
              refine tv_iald 80 (tr68 hT) (mj) (by omega) (by omega) (by omega) dX12_canGraduate_79 rfl ?_
              refine tj_icmp_lt 87 83 dX12_canGraduate_80 (by decide) rfl (by first | exact TR.rng hT _ _ _ | exact R31_of _ | exact bi_R _ | (constructor <;> omega)) (by first | exact TR.rng hT _ _ _ | exact R31_of _ | exact bi_R _ | (constructor <;> omega)) (fun c80 => ?_) (fun c80 => ?_)
              · skip
                refine tj_iconst 88 dX12_canGraduate_87 rfl ?_
                exact tz_retU (by first | rfl | omega | exact bi_dt (by omega) | exact bi_df (by omega) | (unfold grdV; rw [hmj2]; first | (rw [decide_eq_false (by omega)]; rfl) | (rw [decide_eq_true (by omega), decide_eq_true (by omega)]; rfl) | (rw [decide_eq_true (by omega), decide_eq_false (by omega)]; rfl))) hT (by exact ⟨hMR, hCR⟩) rfl dX12_canGraduate_88
              · skip
                refine tj_iconst 84 dX12_canGraduate_83 rfl ?_
                refine ev_goto 88 dX12_canGraduate_84 (by decide) ?_
                exact tz_retU (by first | rfl | omega | exact bi_dt (by omega) | exact bi_df (by omega) | (unfold grdV; rw [hmj2]; first | (rw [decide_eq_false (by omega)]; rfl) | (rw [decide_eq_true (by omega), decide_eq_true (by omega)]; rfl) | (rw [decide_eq_true (by omega), decide_eq_false (by omega)]; rfl))) hT (by exact ⟨hMR, hCR⟩) rfl dX12_canGraduate_88
          · skip
            refine ev_ild3 44 dX12_canGraduate_43 rfl ?_
            refine ev_ald0 45 dX12_canGraduate_44 rfl ?_
            refine ev_getfield 48 14 34 fl_X12_82_14 (tr40 hT) rfl dX12_canGraduate_45 rfl ?_
            refine ev_ild4 50 dX12_canGraduate_48 rfl ?_
            refine tv_iald 51 (tr74 hT) (k) (by omega) (by omega) (by omega) dX12_canGraduate_50 rfl ?_
            refine tj_iadd 52 dX12_canGraduate_51 rfl ?_
            refine ev_ist3 53 dX12_canGraduate_52 rfl (by decide) rfl ?_
            refine tj_inc4 56 dX12_canGraduate_53 rfl (by decide) rfl ?_
            refine ev_goto 34 dX12_canGraduate_56 (by decide) ?_
            exact ih34 (k + 1) _ _ (by omega) (by first | omega | assumption | omega) (by first | rfl | omega | (first | rfl | (rw [sK, (hLR.2.2.2 k (by omega)).2]))) (by first | rfl | omega | (first | rfl | (rw [sK, (hLR.2.2.2 k (by omega)).2])))
      exact lp34 _ (0) _ _ (Nat.lt_succ_self _) (by first | omega | assumption | omega) (by first | rfl | omega | (first | rfl | (rw [sK, (hLR.2.2.2 k (by omega)).2]))) (by first | rfl | omega | (first | rfl | (rw [sK, (hLR.2.2.2 k (by omega)).2])))
    · exact False.elim (by omega)
