/-! THE CLASS: an audit opens -/
/-- whether a course counts for a rule -/
def cdN (X : XM) (r s : Nat) (b : Bool) (c : Nat) : Bool := decide (X 15 r c ≠ 0) && (decide (50 ≤ bbR X s b c) && decide (X 14 r 2 ≤ bbR X s b c))
theorem bts_cg {z : Int} {p q : Nat → Bool} (h : bts z p) (e : ∀ k, k < 4 → p k = q k) : bts z q := ⟨h.1, h.2.1, fun k hk => by rw [h.2.2 k hk, e k hk]⟩
theorem cdN_far {X : XM} (hO : WO X) {r s c : Nat} {b : Bool} (hs : (s : Int) < nS X) (hc : nC X ≤ (c : Int)) (hc2 : c < 20) : cdN X r s b c = false := by
  have f := wo_far hO s c hs hc hc2
  have g := wo_bsq hO s c hs hc2
  rw [f.2.2] at g
  have g2 : X 8 s c = -1 := by
    rw [g]
    show (if mvd X s c = true then (50 : Int) else -1) = -1
    rw [if_neg (show ¬ mvd X s c = true from fun z => absurd f.2.1 (of_decide_eq_true z))]
  have t : tak X s c = false := decide_eq_false (fun z => z f.1)
  have e : bbR X s b c = -1 := by
    unfold bbR
    rw [t, Bool.and_false, if_neg (by decide), g2]
  unfold cdN
  rw [e, decide_eq_false (show ¬ (50 : Int) ≤ -1 by decide)]
  simp
set_option maxRecDepth 100000 in
set_option maxHeartbeats 4000000 in
theorem c_X0_open {g : Gt} {α : AL} {ν : Nat → Nat → Bool} {X : XM} {h : AH} (hT : TR g α ν X h) (hW : WX ν X) {s : Nat} (hs0 : (s : Int) < nS X) {b : Bool} : Mu g α ν M_X0_open 3 [.ref (α 17 0), .ref (α 1 3), .ref (α 4 s), .int (J (bi b))] h (none) (fun X' => (∀ kk, kk ≠ 17 → kk ≠ 18 → kk ≠ 19 → kk ≠ 20 → X' kk = X kk) ∧ AU X' (nsl X s) (itR X s) (ndR X s) (ftR X s b)) := by
  refine mu_of rfl rfl (ls := [some (.ref (α 17 0)), some (.ref (α 1 3)), some (.ref (α 4 s)), some (.int (J (bi b))), none, none]) rfl (Nat.le_of_ble_eq_true rfl) ?_
  show Ev g M_X0_open 3 0 [some (.ref (α 17 0)), some (.ref (α 1 3)), some (.ref (α 4 s)), some (.int (J (bi b))), none, none] [] h 0 0 (UQ g α ν (none) (fun X' => (∀ kk, kk ≠ 17 → kk ≠ 18 → kk ≠ 19 → kk ≠ 20 → X' kk = X kk) ∧ AU X' (nsl X s) (itR X s) (ndR X s) (ftR X s b)))
  have q1 := wo_nC hW.1
  have q3 := wo_nS hW.1
  have hW0 := hW
  have hs := wx_stu hW hs0
  have hl : s < 17 := by omega
  have qnR := wo_nR hW.1
  refine ev_ald0 1 dX0_open_0 rfl ?_
  refine tj_iconst 2 dX0_open_1 rfl ?_
  refine tv_puti 5 0 .int fl_X0_40_3 fp_3_0 hT (tv17 hT) (fun _ => rfl) rfl (Nat.le_of_ble_eq_true rfl) rfl rfl (by first | exact TR.rng hT _ _ _ | exact R31_of _ | exact bi_R _ | (constructor <;> omega)) dX0_open_2 rfl (fun h hT => ?_)
  obtain ⟨XA, hXA⟩ : ∃ Z, Z = xs X 17 0 0 0 := ⟨_, rfl⟩
  rw [← hXA] at hT
  refine ev_ald0 6 dX0_open_5 rfl ?_
  refine ev_getfield 9 3 3 fl_X0_18_3 (tr17 hT) rfl dX0_open_6 rfl ?_
  refine tj_iconst 10 dX0_open_9 rfl ?_
  refine tmv_S2 13 dX0_open_10 lks_X0_44 rfl (by first | decide | omega) (Nat.le_of_ble_eq_true rfl) (fill_c hT (tv20 hT) (fun _ => rfl) (L := 20) (by omega) R31_0) (fun h X1 hT hP10 => ?_)
  have hP10b : X1 = xw XA 20 0 (fun j => if j < 20 then 0 else XA 20 0 j) := hP10
  have hI0 : (∀ kk, kk ≠ 17 → kk ≠ 18 → kk ≠ 19 → kk ≠ 20 → X1 kk = X kk) ∧ X1 17 0 0 = cnt (prM X s) 0 ∧ (∀ k : Nat, (k : Int) < cnt (prM X s) 0 → X1 18 0 k = itN (prM X s) k 0 ∧ X1 19 0 k = X 14 (itN (prM X s) k 0) 1) ∧ ∀ c, c < 20 → bts (X1 20 0 c) (fun k => decide ((k : Int) < cnt (prM X s) 0) && cdN X (itN (prM X s) k 0) s b c) := ⟨fun kk q1 q2 q3 q4 => by rw [hP10b]; funext i; rw [xw_ne (fun z => q4 z.1), hXA, xs_nk q1], by rw [hP10b, xw_ne (by omega), hXA, xs_at, if_pos rfl]; rfl, fun k hk => absurd hk (by show ¬ (k : Int) < 0; omega), fun c hc => by rw [hP10b, xw_at, if_pos hc]; exact ⟨by decide, by decide, fun k hk => by show Nat.testBit 0 k = (decide ((k : Int) < cnt (prM X s) 0) && _); rw [decide_eq_false (by show ¬ (k : Int) < 0; omega)]; simp⟩⟩
  refine tj_iconst 14 dX0_open_13 rfl ?_
  refine ev_ist4 16 dX0_open_14 rfl (by decide) rfl ?_
  have lp16 : ∀ (n16 : Nat) (r : Nat) (z4 : Int) (o5 : Option Value) (h : AH) (X2 : XM), 17 - r < n16 → ((r : Int) ≤ nR X) → z4 = (r : Int) → TR g α ν X2 h → ((∀ kk, kk ≠ 17 → kk ≠ 18 → kk ≠ 19 → kk ≠ 20 → X2 kk = X kk) ∧ X2 17 0 0 = cnt (prM X s) r ∧ (∀ k : Nat, (k : Int) < cnt (prM X s) r → X2 18 0 k = itN (prM X s) k r ∧ X2 19 0 k = X 14 (itN (prM X s) k r) 1) ∧ ∀ c, c < 20 → bts (X2 20 0 c) (fun k => decide ((k : Int) < cnt (prM X s) r) && cdN X (itN (prM X s) k r) s b c)) → Ev g M_X0_open 3 16 [some (.ref (α 17 0)), some (.ref (α 1 3)), some (.ref (α 4 s)), some (.int (J (bi b))), some (.int (J z4)), o5] [] h 0 0 (UQ g α ν (none) (fun X' => (∀ kk, kk ≠ 17 → kk ≠ 18 → kk ≠ 19 → kk ≠ 20 → X' kk = X kk) ∧ AU X' (nsl X s) (itR X s) (ndR X s) (ftR X s b))) := by
    intro n16
    induction n16 with
    | zero => intro r z4 o5 h X2 hm; exact absurd hm (Nat.not_lt_zero _)
    | succ n16 ih16 =>
      intro r z4 o5 h X2 hm16 hr e4 hT hI
      subst e4
      obtain ⟨f1, f2, f3, f4⟩ := hI
      have hW : WX ν X2 := wx_cg hW0 (fun kk q => f1 kk (by omega) (by omega) (by omega) (by omega))
      have e1 := f1 1 (by decide) (by decide) (by decide) (by decide)
      have e4 := f1 4 (by decide) (by decide) (by decide) (by decide)
      have e14 := f1 14 (by decide) (by decide) (by decide) (by decide)
      have enR : nR X2 = nR X := by unfold nR; rw [e1]
      refine ev_ild4 18 dX0_open_16 rfl ?_
      refine ev_ald1 19 dX0_open_18 rfl ?_
      refine tc_V0 22 2 dX0_open_19 lkv_X0_50 (tr1_3 hT) rfl rfl (by first | decide | omega) (Nat.le_of_ble_eq_true rfl) (z_R hT hW) ?_
      refine tj_icmp_ge 105 25 dX0_open_22 (by decide) rfl (by first | exact TR.rng hT _ _ _ | exact R31_of _ | exact bi_R _ | (constructor <;> omega)) (by first | exact TR.rng hT _ _ _ | exact R31_of _ | exact bi_R _ | (constructor <;> omega)) (fun c22 => ?_) (fun c22 => ?_)
      · skip
        exact ev_vreturn (uq_v hT (by have er : r = (nR X).toNat := (by omega); subst er; have c0 := cnt_0 (prM X s) (nR X).toNat; exact ⟨f1, by rw [f2]; unfold nsl; omega, fun k hk => f3 k (by unfold nsl at hk; omega), fun c hc => bts_cg (f4 c hc) (fun k hk => by show (decide ((k : Int) < _) && cdN X (itN (prM X s) k (nR X).toNat) s b c) = (decide (k < nsl X s) && (decide ((c : Int) < nC X) && cdN X (itR X s k) s b c)); have hd : decide ((k : Int) < cnt (prM X s) (nR X).toNat) = decide (k < nsl X s) := (by unfold nsl; by_cases q : (k : Int) < cnt (prM X s) (nR X).toNat; (rw [decide_eq_true q, decide_eq_true (by omega)]); (rw [decide_eq_false q, decide_eq_false (by omega)])); rw [hd]; by_cases q : (c : Int) < nC X; (rw [decide_eq_true q, Bool.true_and]; rfl); (rw [decide_eq_false q, cdN_far hW0.1 hs0 (by omega) hc]; simp))⟩)) rfl dX0_open_105
      · skip
        exact False.elim (by omega)
  exact lp16 _ (0) _ _ _ _ (Nat.lt_succ_self _) (by first | omega | assumption | omega) (by first | rfl | omega | (omega)) hT (by first | assumption | (first | exact hI0 | exact hI9 | exact ⟨f1, by rw [f2, hcn], fun k hk => by rw [hcn] at hk; rw [itN_s hk]; exact f3 k hk, fun c hc => bts_cg (f4 c hc) (fun k hk => by show (decide ((k : Int) < _) && cdN X (itN (prM X s) k r) s b c) = (decide ((k : Int) < _) && cdN X (itN (prM X s) k (r + 1)) s b c); rw [hcn]; by_cases q : (k : Int) < cnt (prM X s) r; (rw [itN_s q]); (rw [decide_eq_false q]; rfl))⟩))
