/-! THE CLASS: what a match tells, and what all matches tell -/
set_option maxRecDepth 100000 in
set_option maxHeartbeats 4000000 in
theorem c_X0_giveAll {g : Gt} {α : AL} {ν : Nat → Nat → Bool} {X : XM} {h : AH} (hT : TR g α ν X h) {m : Nat} {it : Nat → Nat} {nd : Nat → Int} {ft : Nat → Nat → Bool} (hA : AU X m it nd ft) (hm : m ≤ 4) (hnd : ∀ k, k < m → 1 ≤ nd k ∧ nd k ≤ 3) : Me g α ν M_X0_giveAll 5 [.ref (α 17 0)] h (fun v X' => (∀ kk, kk ≠ 21 → kk ≠ 22 → kk ≠ 23 → kk ≠ 24 → kk ≠ 25 → X' kk = X kk) ∧ (∀ k, k < m → X' 21 0 k = nd k) ∧ GS m ft (X' 21 0) 0 20 (X' 23 0) (X' 22 0) v) := by
  refine me_of rfl rfl (ls := [some (.ref (α 17 0))]) rfl (Nat.le_of_ble_eq_true rfl) ?_
  show Ev g M_X0_giveAll 5 0 [some (.ref (α 17 0))] [] h 0 0 (EQ g α ν (fun v X' => (∀ kk, kk ≠ 21 → kk ≠ 22 → kk ≠ 23 → kk ≠ 24 → kk ≠ 25 → X' kk = X kk) ∧ (∀ k, k < m → X' 21 0 k = nd k) ∧ GS m ft (X' 21 0) 0 20 (X' 23 0) (X' 22 0) v))
  have a1 := hA.1
  refine ev_ald0 1 dX0_giveAll_0 rfl ?_
  refine ev_getfield 4 3 2 fl_X0_15_3 (tr17 hT) rfl dX0_giveAll_1 rfl ?_
  refine tj_iconst 5 dX0_giveAll_4 rfl ?_
  refine ev_ald0 6 dX0_giveAll_5 rfl ?_
  refine ev_getfield 9 3 4 fl_X0_21_3 (tr17 hT) rfl dX0_giveAll_6 rfl ?_
  refine tj_iconst 10 dX0_giveAll_9 rfl ?_
  refine tj_iconst 11 dX0_giveAll_10 rfl ?_
  refine tv_copyA 14 4 hT (tv19 hT) (tv21 hT) (fun _ => rfl) (fun _ => rfl) (by decide) rfl rfl rfl (by decide) (by decide) (ki := 0) (ty := .int) rfl rfl (fun i hi => rfl) dX0_giveAll_11 acl_X0_87 (by decide) (Nat.le_of_ble_eq_true rfl) rfl (fun h hT => ?_)
  obtain ⟨X3, hX3⟩ : ∃ Z, Z = xw X 21 0 (fun j => if j < 4 then X 19 0 j else X 21 0 j) := ⟨_, rfl⟩
  rw [← hX3] at hT
  have hfX : ∀ kk, kk ≠ 21 → X3 kk = X kk := fun kk q => by rw [hX3]; funext i; exact xw_ne (fun z => q z.1)
  have hA3 : AU X3 m it nd ft := AU_f hA (fun kk q _ _ _ _ => hfX kk q)
  have h21 : ∀ k, k < m → X3 21 0 k = nd k := fun k hk => by rw [hX3, xw_at, if_pos (by omega)]; exact (hA.2.1 k hk).2
  refine ev_ald0 15 dX0_giveAll_14 rfl ?_
  refine tj_iconst 16 dX0_giveAll_15 rfl ?_
  refine te_V1 19 3 dX0_giveAll_16 lkv_X0_93 (tr17 hT) rfl rfl (by first | decide | omega) (Nat.le_of_ble_eq_true rfl) (c_X0_giveFrom hT hA3 hm (fr := 0) (by decide) (fun k hk => by rw [h21 k hk]; have := hnd k hk; omega)) (fun h X1 v16 hT hP16 => ?_)
  obtain ⟨w1, w2⟩ := hP16
  have e21 := w1 21 (by decide) (by decide) (by decide) (by decide)
  exact ev_ireturn ⟨_, _, rfl, hT, (by exact ⟨fun kk q1 q2 q3 q4 q5 => by rw [w1 kk q2 q3 q4 q5]; exact hfX kk q1, fun k hk => by rw [e21]; exact h21 k hk, by rw [e21]; exact w2⟩)⟩ rfl dX0_giveAll_19
set_option maxRecDepth 100000 in
set_option maxHeartbeats 4000000 in
theorem c_X0_trials {g : Gt} {α : AL} {ν : Nat → Nat → Bool} {X : XM} {h : AH} (hT : TR g α ν X h) {m : Nat} {it : Nat → Nat} {nd : Nat → Int} {ft : Nat → Nat → Bool} (hA : AU X m it nd ft) (hm : m ≤ 4) : Pr g M_X0_trials 0 [.ref (α 17 0)] h (some (.int (J ((1 <<< (2 * m) : Nat) : Int)))) := by
  refine pr_of rfl rfl (ls := [some (.ref (α 17 0))]) rfl (Nat.le_of_ble_eq_true rfl) ?_
  show Ev g M_X0_trials 0 0 [some (.ref (α 17 0))] [] h 0 0 (PQ (some (.int (J ((1 <<< (2 * m) : Nat) : Int)))) h)
  have a1 := hA.1
  refine tj_iconst 1 dX0_trials_0 rfl ?_
  refine tj_iconst 2 dX0_trials_1 rfl ?_
  refine ev_ald0 3 dX0_trials_2 rfl ?_
  refine ev_getfield 6 3 0 fl_X0_40_3 (tr17 hT) rfl dX0_trials_3 rfl ?_
  refine tj_imul 7 dX0_trials_6 rfl ?_
  refine tj_ishl 8 dX0_trials_7 1 (2 * m) rfl (by omega) (by omega) rfl ?_
  exact ev_ireturn (pq_i (by first | rfl | omega | exact bi_dt (by omega) | exact bi_df (by omega) | (rfl))) rfl dX0_trials_8
theorem shl_R {m : Nat} (hm : m ≤ 4) : 1 ≤ 1 <<< (2 * m) ∧ 1 <<< (2 * m) ≤ 256 := by
  rcases (show m = 0 ∨ m = 1 ∨ m = 2 ∨ m = 3 ∨ m = 4 by omega) with rfl | rfl | rfl | rfl | rfl <;> decide
set_option maxRecDepth 100000 in
set_option maxHeartbeats 4000000 in
theorem c_X0_countIn {g : Gt} {h : AH} {f k : Nat} (hf : f < 256) (hk : k < 4) : Pr g M_X0_countIn 0 [.int (J (f : Int)), .int (J (k : Int))] h (some (.int (J (dg f k : Int)))) := by
  refine pr_of rfl rfl (ls := [some (.int (J (f : Int))), some (.int (J (k : Int)))]) rfl (Nat.le_of_ble_eq_true rfl) ?_
  show Ev g M_X0_countIn 0 0 [some (.int (J (f : Int))), some (.int (J (k : Int)))] [] h 0 0 (PQ (some (.int (J (dg f k : Int)))) h)
  refine ev_ild0 1 dX0_countIn_0 rfl ?_
  refine tj_iconst 2 dX0_countIn_1 rfl ?_
  refine ev_ild1 3 dX0_countIn_2 rfl ?_
  refine tj_imul 4 dX0_countIn_3 rfl ?_
  refine tj_ishr 5 dX0_countIn_4 f (2 * k) rfl (by omega) (by omega) (by omega) rfl ?_
  refine tj_iconst 6 dX0_countIn_5 rfl ?_
  refine tj_iand 7 dX0_countIn_6 (f >>> (2 * k)) 3 rfl rfl rfl ?_
  exact ev_ireturn (pq_i (by first | rfl | omega | exact bi_dt (by omega) | exact bi_df (by omega) | (rfl))) rfl dX0_countIn_7
theorem sK_dg (f : Nat) : ∀ n, 0 ≤ sK (fun k => (dg f k : Int)) n ∧ sK (fun k => (dg f k : Int)) n ≤ 3 * n
  | 0 => ⟨Int.le_refl 0, Int.le_refl 0⟩
  | n + 1 => by
    have a := sK_dg f n
    have b := dg_le f n
    rw [sK]
    omega
set_option maxRecDepth 100000 in
set_option maxHeartbeats 4000000 in
theorem c_X0_sumOf {g : Gt} {α : AL} {ν : Nat → Nat → Bool} {X : XM} {h : AH} (hT : TR g α ν X h) {m : Nat} {it : Nat → Nat} {nd : Nat → Int} {ft : Nat → Nat → Bool} (hA : AU X m it nd ft) (hm : m ≤ 4) {f : Nat} (hf : f < 256) : Pr g M_X0_sumOf 1 [.ref (α 17 0), .int (J (f : Int))] h (some (.int (J (sK (fun k => (dg f k : Int)) m)))) := by
  refine pr_of rfl rfl (ls := [some (.ref (α 17 0)), some (.int (J (f : Int))), none, none]) rfl (Nat.le_of_ble_eq_true rfl) ?_
  show Ev g M_X0_sumOf 1 0 [some (.ref (α 17 0)), some (.int (J (f : Int))), none, none] [] h 0 0 (PQ (some (.int (J (sK (fun k => (dg f k : Int)) m)))) h)
  have a1 := hA.1
  refine tj_iconst 1 dX0_sumOf_0 rfl ?_
  refine ev_ist2 2 dX0_sumOf_1 rfl (by decide) rfl ?_
  refine tj_iconst 3 dX0_sumOf_2 rfl ?_
  refine ev_ist3 4 dX0_sumOf_3 rfl (by decide) rfl ?_
  have lp4 : ∀ (n4 : Nat) (k : Nat) (z2 : Int) (z3 : Int) , 5 - k < n4 → (k ≤ m) → z2 = sK (fun k => (dg f k : Int)) k → z3 = (k : Int) → Ev g M_X0_sumOf 1 4 [some (.ref (α 17 0)), some (.int (J (f : Int))), some (.int (J z2)), some (.int (J z3))] [] h 0 0 (PQ (some (.int (J (sK (fun k => (dg f k : Int)) m)))) h) := by
    intro n4
    induction n4 with
    | zero => intro k z2 z3 hm; exact absurd hm (Nat.not_lt_zero _)
    | succ n4 ih4 =>
      intro k z2 z3 hm4 hk e2 e3
      subst e2
      subst e3
      have hsk := sK_dg f k
      refine ev_ild3 5 dX0_sumOf_4 rfl ?_
      refine ev_ald0 6 dX0_sumOf_5 rfl ?_
      refine ev_getfield 9 3 0 fl_X0_40_3 (tr17 hT) rfl dX0_sumOf_6 rfl ?_
      refine tj_icmp_ge 26 12 dX0_sumOf_9 (by decide) rfl (by first | exact TR.rng hT _ _ _ | exact R31_of _ | exact bi_R _ | (constructor <;> omega)) (by first | exact TR.rng hT _ _ _ | exact R31_of _ | exact bi_R _ | (constructor <;> omega)) (fun c9 => ?_) (fun c9 => ?_)
      · skip
        refine ev_ild2 27 dX0_sumOf_26 rfl ?_
        exact ev_ireturn (pq_i (by first | rfl | omega | exact bi_dt (by omega) | exact bi_df (by omega) | (rw [show k = m by omega]))) rfl dX0_sumOf_27
      · skip
        refine ev_ild2 13 dX0_sumOf_12 rfl ?_
        refine ev_ild1 14 dX0_sumOf_13 rfl ?_
        refine ev_ild3 15 dX0_sumOf_14 rfl ?_
        refine tc_S2 18 dX0_sumOf_15 lks_X0_125 rfl (by first | decide | omega) (Nat.le_of_ble_eq_true rfl) (c_X0_countIn hf (by omega)) ?_
        refine tj_iadd 19 dX0_sumOf_18 rfl ?_
        refine ev_ist2 20 dX0_sumOf_19 rfl (by decide) rfl ?_
        refine tj_inc3 23 dX0_sumOf_20 rfl (by decide) rfl ?_
        refine ev_goto 4 dX0_sumOf_23 (by decide) ?_
        exact ih4 (k + 1) _ _ (by omega) (by first | omega | assumption | omega) (by first | rfl | omega | (first | rfl | (rw [sK]))) (by first | rfl | omega | (first | rfl | (rw [sK])))
  exact lp4 _ (0) _ _ (Nat.lt_succ_self _) (by first | omega | assumption | omega) (by first | rfl | omega | (first | rfl | (rw [sK]))) (by first | rfl | omega | (first | rfl | (rw [sK])))
/-- the class's row of what can be given says R -/
def MC (X : XM) (m : Nat) (R : Nat → Prop) : Prop := ∀ g, g < 1 <<< (2 * m) → (X 26 0 g = 0 ∨ X 26 0 g = 1) ∧ (X 26 0 g = 1 ↔ R g)
theorem MC_cg {X : XM} {m : Nat} {R S : Nat → Prop} (h : MC X m R) (hs : ∀ g, R g ↔ S g) : MC X m S := fun g hg => ⟨(h g hg).1, (h g hg).2.trans (hs g)⟩
theorem MC_set {X : XM} {m : Nat} {R S : Nat → Prop} {j : Nat} (h : MC X m R) (hs : ∀ g, S g ↔ R g ∨ g = j) : MC (xs X 26 0 j 1) m S := fun g hg => by
  rw [xs_at]
  by_cases e : g = j
  · rw [if_pos e]; exact ⟨Or.inr rfl, ⟨fun _ => (hs g).mpr (Or.inr e), fun _ => rfl⟩⟩
  · rw [if_neg e]
    refine ⟨(h g hg).1, (h g hg).2.trans ⟨fun q => (hs g).mpr (Or.inl q), fun q => ?_⟩⟩
    rcases (hs g).mp q with q | q
    · exact q
    · exact absurd q e
theorem Rm_topn {m : Nat} {fit : Nat → Nat → Bool} {rm : Nat → Int} {R : Nat → Prop} {c n : Nat} (hl : ∀ g, R g → g < n) (g : Nat) : R g ↔ Rm m fit rm R c n g := by
  constructor
  · exact Or.inl
  · rintro (h | ⟨f, k, h1, h2, h3, h4, h5⟩)
    · exact h
    · have := hl f h4; omega
theorem Rm_bot0 {m : Nat} {fit : Nat → Nat → Bool} {rm : Nat → Int} {i : Nat} (g : Nat) : Rm m fit rm (Rc m fit rm 0 0 i) i 0 g ↔ Rc m fit rm 0 0 (i + 1) g := by
  have e := Rm_bot (m := m) (fit := fit) (rm := rm) (fr := 0) (fill := 0) (i := i) g
  rw [Nat.zero_add] at e
  exact e
theorem Rc_nof {m : Nat} {fit : Nat → Nat → Bool} {rm : Nat → Int} {i : Nat} (h : ∀ k, k < m → fit i k = false) (g : Nat) : Rc m fit rm 0 0 i g ↔ Rc m fit rm 0 0 (i + 1) g := by
  constructor
  · exact Or.inl
  · rintro (q | ⟨f, k, h1, h2, h3, h4, h5⟩)
    · exact q
    · rw [Nat.zero_add, h k h1] at h4
      cases h4
set_option maxRecDepth 100000 in
set_option maxHeartbeats 4000000 in
theorem c_X0_tryCourse {g : Gt} {α : AL} {ν : Nat → Nat → Bool} {X : XM} {h : AH} (hT : TR g α ν X h) {m : Nat} {it : Nat → Nat} {nd : Nat → Int} {ft : Nat → Nat → Bool} (hA : AU X m it nd ft) (hm : m ≤ 4) (hnd : ∀ k, k < m → 1 ≤ nd k ∧ nd k ≤ 3) {c : Nat} (hc : c < 20) (hMC : MC X m (Rc m ft nd 0 0 c)) : Mu g α ν M_X0_tryCourse 2 [.ref (α 17 0), .int (J (c : Int))] h (none) (fun X' => (∀ kk, kk ≠ 26 → X' kk = X kk) ∧ MC X' m (Rc m ft nd 0 0 (c + 1))) := by
  refine mu_of rfl rfl (ls := [some (.ref (α 17 0)), some (.int (J (c : Int))), none, none]) rfl (Nat.le_of_ble_eq_true rfl) ?_
  show Ev g M_X0_tryCourse 2 0 [some (.ref (α 17 0)), some (.int (J (c : Int))), none, none] [] h 0 0 (UQ g α ν (none) (fun X' => (∀ kk, kk ≠ 26 → X' kk = X kk) ∧ MC X' m (Rc m ft nd 0 0 (c + 1))))
  have a1 := hA.1
  have hsh := shl_R hm
  have hR256 := fun g (q : Rc m ft nd 0 0 c g) => Rc_lt hm (fun k hk => (hnd k hk).2) (by decide) c q
  have hRz := fun g (q : Rc m ft nd 0 0 c g) => Rc_z hm (fun k hk => (hnd k hk).2) (by decide) (fun k _ _ => dg_0 k) c q
  have hRl := fun g (q : Rc m ft nd 0 0 c g) => dg_small (hR256 g q) hm (hRz g q)
  refine ev_ald0 1 dX0_tryCourse_0 rfl ?_
  refine tc_V0 4 3 dX0_tryCourse_1 lkv_X0_116 (tr17 hT) rfl rfl (by first | decide | omega) (Nat.le_of_ble_eq_true rfl) (c_X0_trials hT hA hm) ?_
  refine tj_iconst 5 dX0_tryCourse_4 rfl ?_
  refine tj_isub 6 dX0_tryCourse_5 rfl ?_
  refine ev_ist2 7 dX0_tryCourse_6 rfl (by decide) rfl ?_
  have lp7 : ∀ (n7 : Nat) (f : Nat) (z2 : Int) (o3 : Option Value) (h : AH) (X2 : XM), f < n7 → (f ≤ 1 <<< (2 * m)) → z2 = (f : Int) - 1 → TR g α ν X2 h → ((∀ kk, kk ≠ 26 → X2 kk = X kk) ∧ MC X2 m (Rm m ft nd (Rc m ft nd 0 0 c) c f)) → Ev g M_X0_tryCourse 2 7 [some (.ref (α 17 0)), some (.int (J (c : Int))), some (.int (J z2)), o3] [] h 0 0 (UQ g α ν (none) (fun X' => (∀ kk, kk ≠ 26 → X' kk = X kk) ∧ MC X' m (Rc m ft nd 0 0 (c + 1)))) := by
    intro n7
    induction n7 with
    | zero => intro f z2 o3 h X2 hm; exact absurd hm (Nat.not_lt_zero _)
    | succ n7 ih7 =>
      intro f z2 o3 h X2 hm7 hf e2 hT hI
      subst e2
      refine ev_ild2 8 dX0_tryCourse_7 rfl ?_
      refine tj_if_lt 78 11 dX0_tryCourse_8 (by decide) rfl (by first | exact TR.rng hT _ _ _ | exact R31_of _ | exact bi_R _ | (constructor <;> omega)) (fun c8 => ?_) (fun c8 => ?_)
      · skip
        obtain rfl : f = 0 := by omega
        exact ev_vreturn (uq_v hT (by exact ⟨hI.1, MC_cg hI.2 (fun g => Rm_bot0 g)⟩)) rfl dX0_tryCourse_78
      · skip
        obtain ⟨f2, rfl⟩ : ∃ f2, f = f2 + 1 := ⟨f - 1, by omega⟩
        rw [show ((f2 + 1 : Nat) : Int) - 1 = (f2 : Int) by omega]
        refine tj_iconst 12 dX0_tryCourse_11 rfl ?_
        refine ev_ist3 13 dX0_tryCourse_12 rfl (by decide) rfl ?_
        have lp13 : ∀ (n13 : Nat) (k : Nat) (z3 : Int)  (h : AH) (X3 : XM), 5 - k < n13 → (k ≤ m) → z3 = (k : Int) → TR g α ν X3 h → ((∀ kk, kk ≠ 26 → X3 kk = X kk) ∧ MC X3 m (Rn m ft nd (Rc m ft nd 0 0 c) c f2 k)) → Ev g M_X0_tryCourse 2 13 [some (.ref (α 17 0)), some (.int (J (c : Int))), some (.int (J (f2 : Int))), some (.int (J z3))] [] h 0 0 (UQ g α ν (none) (fun X' => (∀ kk, kk ≠ 26 → X' kk = X kk) ∧ MC X' m (Rc m ft nd 0 0 (c + 1)))) := by
          intro n13
          induction n13 with
          | zero => intro k z3 h X3 hm; exact absurd hm (Nat.not_lt_zero _)
          | succ n13 ih13 =>
            intro k z3 h X3 hm13 hk5 e3 hT hI
            subst e3
            have hA3 : AU X3 m it nd ft := AU_cg hA (hI.1 17 (by decide)) (hI.1 18 (by decide)) (hI.1 19 (by decide)) (hI.1 20 (by decide))
            have a13 := hA3.1
            have hself := (hI.2 f2 (by omega)).2.trans Rn_self
            have h01 := (hI.2 f2 (by omega)).1
            refine ev_ild3 14 dX0_tryCourse_13 rfl ?_
            refine ev_ald0 15 dX0_tryCourse_14 rfl ?_
            refine ev_getfield 18 3 0 fl_X0_40_3 (tr17 hT) rfl dX0_tryCourse_15 rfl ?_
            refine tj_icmp_ge 72 21 dX0_tryCourse_18 (by decide) rfl (by first | exact TR.rng hT _ _ _ | exact R31_of _ | exact bi_R _ | (constructor <;> omega)) (by first | exact TR.rng hT _ _ _ | exact R31_of _ | exact bi_R _ | (constructor <;> omega)) (fun c18 => ?_) (fun c18 => ?_)
            · skip
              have hMf : MC X3 m (Rm m ft nd (Rc m ft nd 0 0 c) c f2) := MC_cg hI.2 (fun g => Rn_m (by omega) g)
              refine tj_inc2 75 dX0_tryCourse_72 rfl (by decide) rfl ?_
              refine ev_goto 7 dX0_tryCourse_75 (by decide) ?_
              exact ih7 (f2) _ _ _ _ (by omega) (by first | omega | assumption | omega) (by first | rfl | omega | (omega)) hT (by first | assumption | (first | exact ⟨fun _ _ => rfl, MC_cg hMC (fun g => Rm_topn hRl g)⟩ | exact ⟨hI.1, hMf⟩))
            · skip
              have hkk : k < m := by omega
              have hnk := hnd k hkk
              refine ev_ald0 22 dX0_tryCourse_21 rfl ?_
              refine ev_getfield 25 3 9 fl_X0_36_3 (tr17 hT) rfl dX0_tryCourse_22 rfl ?_
              refine ev_ild2 26 dX0_tryCourse_25 rfl ?_
              refine tv_zald 27 (tr26 hT) (f2) (by omega) (by omega) (by omega) dX0_tryCourse_26 rfl ?_
              refine tj_if_eq 72 30 dX0_tryCourse_27 (by decide) rfl (by first | exact TR.rng hT _ _ _ | exact R31_of _ | exact bi_R _ | (constructor <;> omega)) (fun c27 => ?_) (fun c27 => ?_)
              · skip
                have hMf : MC X3 m (Rm m ft nd (Rc m ft nd 0 0 c) c f2) := MC_cg hI.2 (fun g => Rn_no (fun q => by have := hself.mpr q; omega) g)
                refine tj_inc2 75 dX0_tryCourse_72 rfl (by decide) rfl ?_
                refine ev_goto 7 dX0_tryCourse_75 (by decide) ?_
                exact ih7 (f2) _ _ _ _ (by omega) (by first | omega | assumption | omega) (by first | rfl | omega | (omega)) hT (by first | assumption | (first | exact ⟨fun _ _ => rfl, MC_cg hMC (fun g => Rm_topn hRl g)⟩ | exact ⟨hI.1, hMf⟩))
              · skip
                have hR2 : Rc m ft nd 0 0 c f2 := hself.mp (by omega)
                refine ev_ald0 31 dX0_tryCourse_30 rfl ?_
                refine ev_ild1 32 dX0_tryCourse_31 rfl ?_
                refine ev_ild3 33 dX0_tryCourse_32 rfl ?_
                refine tc_V2 36 3 dX0_tryCourse_33 lkv_X0_109 (tr17 hT) rfl rfl (by first | decide | omega) (Nat.le_of_ble_eq_true rfl) (c_X0_isFit hT hA3 hm hc hkk) ?_
                refine tb_if_eq 66 39 dX0_tryCourse_36 (by decide) rfl (fun c36 => ?_) (fun c36 => ?_)
                · skip
                  have hcg : ¬ (ft c k = true ∧ (dg f2 k : Int) < nd k) := fun q => by rw [q.1] at c36; cases c36
                  refine tj_inc3 69 dX0_tryCourse_66 rfl (by decide) rfl ?_
                  refine ev_goto 13 dX0_tryCourse_69 (by decide) ?_
                  exact ih13 (k + 1) _ _ _ (by omega) (by first | omega | assumption | omega) (by first | rfl | omega | (omega)) hT (by first | assumption | (first | exact ⟨hI.1, MC_cg hI.2 (fun g => Rn_0 g)⟩ | exact ⟨hI.1, MC_cg hI.2 (fun g => Rn_n hcg g)⟩ | exact hI6))
                · skip
                  have a19 := (hA3.2.1 k hkk).2
                  have hdl := dg_le f2 k
                  refine ev_ild2 40 dX0_tryCourse_39 rfl ?_
                  refine ev_ild3 41 dX0_tryCourse_40 rfl ?_
                  refine tc_S2 44 dX0_tryCourse_41 lks_X0_125 rfl (by first | decide | omega) (Nat.le_of_ble_eq_true rfl) (c_X0_countIn (f := f2) (by omega) (by omega)) ?_
                  refine ev_ald0 45 dX0_tryCourse_44 rfl ?_
                  refine ev_getfield 48 3 2 fl_X0_15_3 (tr17 hT) rfl dX0_tryCourse_45 rfl ?_
                  refine ev_ild3 49 dX0_tryCourse_48 rfl ?_
                  refine tv_iald 50 (tr19 hT) (k) (by omega) (by omega) (by omega) dX0_tryCourse_49 rfl ?_
                  refine tj_icmp_ge 66 53 dX0_tryCourse_50 (by decide) rfl (by first | exact TR.rng hT _ _ _ | exact R31_of _ | exact bi_R _ | (constructor <;> omega)) (by first | exact TR.rng hT _ _ _ | exact R31_of _ | exact bi_R _ | (constructor <;> omega)) (fun c50 => ?_) (fun c50 => ?_)
                  · skip
                    have hcg : ¬ (ft c k = true ∧ (dg f2 k : Int) < nd k) := fun q => by omega
                    refine tj_inc3 69 dX0_tryCourse_66 rfl (by decide) rfl ?_
                    refine ev_goto 13 dX0_tryCourse_69 (by decide) ?_
                    exact ih13 (k + 1) _ _ _ (by omega) (by first | omega | assumption | omega) (by first | rfl | omega | (omega)) hT (by first | assumption | (first | exact ⟨hI.1, MC_cg hI.2 (fun g => Rn_0 g)⟩ | exact ⟨hI.1, MC_cg hI.2 (fun g => Rn_n hcg g)⟩ | exact hI6))
                  · skip
                    have hdk : (dg f2 k : Int) < nd k := by omega
                    have hu := dg_up (show f2 < 256 by omega) (show k < 4 by omega) (by omega)
                    have hup2 : (up1 f2 k : Int) = f2 + ((1 <<< (2 * k) : Nat) : Int) := by unfold up1; omega
                    have hul : up1 f2 k < 1 <<< (2 * m) := dg_small hu.1 hm (fun j j1 j2 => by rw [hu.2 j j2, hRz f2 hR2 j j1 j2, if_neg (by omega)])
                    refine ev_ald0 54 dX0_tryCourse_53 rfl ?_
                    refine ev_getfield 57 3 9 fl_X0_36_3 (tr17 hT) rfl dX0_tryCourse_54 rfl ?_
                    refine ev_ild2 58 dX0_tryCourse_57 rfl ?_
                    refine tj_iconst 59 dX0_tryCourse_58 rfl ?_
                    refine tj_iconst 60 dX0_tryCourse_59 rfl ?_
                    refine ev_ild3 61 dX0_tryCourse_60 rfl ?_
                    refine tj_imul 62 dX0_tryCourse_61 rfl ?_
                    refine tj_ishl 63 dX0_tryCourse_62 1 (2 * k) rfl (by omega) (by omega) rfl ?_
                    refine tj_iadd 64 dX0_tryCourse_63 rfl ?_
                    refine tj_iconst 65 dX0_tryCourse_64 rfl ?_
                    refine tv_zast 66 hT (tv26 hT) (fun _ => rfl) (up1 f2 k) (by omega) (by omega) (by omega) (by first | omega | exact bi_01 _) dX0_tryCourse_65 rfl (fun h hT => ?_)
                    obtain ⟨X6, hX6⟩ : ∃ Z, Z = xs X3 26 0 (up1 f2 k) 1 := ⟨_, rfl⟩
                    rw [← hX6] at hT
                    have hI6 : (∀ kk, kk ≠ 26 → X6 kk = X kk) ∧ MC X6 m (Rn m ft nd (Rc m ft nd 0 0 c) c f2 (k + 1)) := ⟨fun kk q => by rw [hX6, xs_nk q]; exact hI.1 kk q, by rw [hX6]; exact MC_set hI.2 (fun g => Rn_y hkk hR2 c36 hdk g)⟩
                    refine tj_inc3 69 dX0_tryCourse_66 rfl (by decide) rfl ?_
                    refine ev_goto 13 dX0_tryCourse_69 (by decide) ?_
                    exact ih13 (k + 1) _ _ _ (by omega) (by first | omega | assumption | omega) (by first | rfl | omega | (omega)) hT (by first | assumption | (first | exact ⟨hI.1, MC_cg hI.2 (fun g => Rn_0 g)⟩ | exact ⟨hI.1, MC_cg hI.2 (fun g => Rn_n hcg g)⟩ | exact hI6))
        exact lp13 _ (0) _ _ _ (Nat.lt_succ_self _) (by first | omega | assumption | omega) (by first | rfl | omega | (omega)) hT (by first | assumption | (first | exact ⟨hI.1, MC_cg hI.2 (fun g => Rn_0 g)⟩ | exact ⟨hI.1, MC_cg hI.2 (fun g => Rn_n hcg g)⟩ | exact hI6))
  exact lp7 _ (1 <<< (2 * m)) _ _ _ _ (Nat.lt_succ_self _) (by first | omega | assumption | omega) (by first | rfl | omega | (omega)) hT (by first | assumption | (first | exact ⟨fun _ _ => rfl, MC_cg hMC (fun g => Rm_topn hRl g)⟩ | exact ⟨hI.1, hMf⟩))
set_option maxRecDepth 100000 in
set_option maxHeartbeats 4000000 in
theorem c_X0_mostTried {g : Gt} {α : AL} {ν : Nat → Nat → Bool} {X : XM} {h : AH} (hT : TR g α ν X h) {m : Nat} {it : Nat → Nat} {nd : Nat → Int} {ft : Nat → Nat → Bool} (hA : AU X m it nd ft) (hm : m ≤ 4) (hnd : ∀ k, k < m → 1 ≤ nd k ∧ nd k ≤ 3) {R : Nat → Prop} (hMC : MC X m R) (hR : ∀ g, R g → g < 256 ∧ ∀ k, m ≤ k → k < 4 → dg g k = 0) {z : Int} (hz : z = -1 ∨ ∃ k : Nat, k < m ∧ z = (k : Int)) {g0 : Nat} (h0 : R g0 ∧ ∀ k : Nat, z = (k : Int) → (dg g0 k : Int) < nd k) : Pr g M_X0_mostTried 3 [.ref (α 17 0), .int (J z)] h (some (.int (J (mx (fun g => R g ∧ ∀ k : Nat, z = (k : Int) → (dg g k : Int) < nd k))))) := by
  refine pr_of rfl rfl (ls := [some (.ref (α 17 0)), some (.int (J z)), none, none, none]) rfl (Nat.le_of_ble_eq_true rfl) ?_
  show Ev g M_X0_mostTried 3 0 [some (.ref (α 17 0)), some (.int (J z)), none, none, none] [] h 0 0 (PQ (some (.int (J (mx (fun g => R g ∧ ∀ k : Nat, z = (k : Int) → (dg g k : Int) < nd k))))) h)
  have a1 := hA.1
  have hsh := shl_R hm
  have hzR : -1 ≤ z ∧ z < 4 := by rcases hz with q | ⟨k, q1, q2⟩ <;> omega
  obtain ⟨S, hS⟩ : ∃ S : Nat → Prop, S = fun g => R g ∧ ∀ k : Nat, z = (k : Int) → (dg g k : Int) < nd k := ⟨_, rfl⟩
  refine tj_iconst 1 dX0_mostTried_0 rfl ?_
  refine ev_ist2 2 dX0_mostTried_1 rfl (by decide) rfl ?_
  refine tj_iconst 3 dX0_mostTried_2 rfl ?_
  refine ev_ist3 4 dX0_mostTried_3 rfl (by decide) rfl ?_
  have lp4 : ∀ (n4 : Nat) (f : Nat) (y : Int) (z2 : Int) (z3 : Int) (o4 : Option Value), 257 - f < n4 → (f ≤ 1 <<< (2 * m)) → (GMx S f y) → z2 = y → z3 = (f : Int) → Ev g M_X0_mostTried 3 4 [some (.ref (α 17 0)), some (.int (J z)), some (.int (J z2)), some (.int (J z3)), o4] [] h 0 0 (PQ (some (.int (J (mx (fun g => R g ∧ ∀ k : Nat, z = (k : Int) → (dg g k : Int) < nd k))))) h) := by
    intro n4
    induction n4 with
    | zero => intro f y z2 z3 o4 hm; exact absurd hm (Nat.not_lt_zero _)
    | succ n4 ih4 =>
      intro f y z2 z3 o4 hm4 hf hy e2 e3
      subst e2
      subst e3
      have hy0 := hy.1
      have hy1 := hy.2.1
      have hnf := nf_12 f
      refine ev_ild3 5 dX0_mostTried_4 rfl ?_
      refine ev_ald0 6 dX0_mostTried_5 rfl ?_
      refine tc_V0 9 3 dX0_mostTried_6 lkv_X0_116 (tr17 hT) rfl rfl (by first | decide | omega) (Nat.le_of_ble_eq_true rfl) (c_X0_trials hT hA hm) ?_
      refine tj_icmp_ge 68 12 dX0_mostTried_9 (by decide) rfl (by first | exact TR.rng hT _ _ _ | exact R31_of _ | exact bi_R _ | (constructor <;> omega)) (by first | exact TR.rng hT _ _ _ | exact R31_of _ | exact bi_R _ | (constructor <;> omega)) (fun c9 => ?_) (fun c9 => ?_)
      · skip
        refine ev_ild2 69 dX0_mostTried_68 rfl ?_
        exact ev_ireturn (pq_i (by first | rfl | omega | exact bi_dt (by omega) | exact bi_df (by omega) | (show _ = mx _; rw [← hS]; refine (GMx_end hy (fun g q => ?_) (g0 := g0) (by rw [hS]; exact h0)).symm; rw [hS] at q; have := dg_small (hR g q.1).1 hm (hR g q.1).2; omega))) rfl dX0_mostTried_69
      · skip
        have hMf := hMC f (by omega)
        refine ev_ild1 13 dX0_mostTried_12 rfl ?_
        refine tj_iconst 14 dX0_mostTried_13 rfl ?_
        refine tj_icmp_eq 31 17 dX0_mostTried_14 (by decide) rfl (by first | exact TR.rng hT _ _ _ | exact R31_of _ | exact bi_R _ | (constructor <;> omega)) (by first | exact TR.rng hT _ _ _ | exact R31_of _ | exact bi_R _ | (constructor <;> omega)) (fun c14 => ?_) (fun c14 => ?_)
        · skip
          have hal : ∀ k : Nat, z = (k : Int) → (dg f k : Int) < nd k := fun k e => absurd e (by omega)
          refine tj_iconst 32 dX0_mostTried_31 rfl ?_
          refine ev_goto 36 dX0_mostTried_32 (by decide) ?_
          refine ev_ist4 38 dX0_mostTried_36 rfl (by decide) rfl ?_
          refine ev_ald0 39 dX0_mostTried_38 rfl ?_
          refine ev_getfield 42 3 9 fl_X0_36_3 (tr17 hT) rfl dX0_mostTried_39 rfl ?_
          refine ev_ild3 43 dX0_mostTried_42 rfl ?_
          refine tv_zald 44 (tr26 hT) (f) (by omega) (by omega) (by omega) dX0_mostTried_43 rfl ?_
          refine tj_if_eq 62 47 dX0_mostTried_44 (by decide) rfl (by first | exact TR.rng hT _ _ _ | exact R31_of _ | exact bi_R _ | (constructor <;> omega)) (fun c44 => ?_) (fun c44 => ?_)
          · skip
            obtain ⟨y9, hy9⟩ : ∃ y9 : Int, z2 = y9 ∧ GMx S (f + 1) y9 := ⟨z2, rfl, GMx_n hy (fun q => by rw [hS] at q; have := hMf.2.mpr q.1; omega)⟩
            refine tj_inc3 65 dX0_mostTried_62 rfl (by decide) rfl ?_
            refine ev_goto 4 dX0_mostTried_65 (by decide) ?_
            exact ih4 (f + 1) (y9) _ _ _ (by omega) (by first | omega | assumption | first | exact GMx_0 _ | exact hy9.2) (by first | omega | assumption | first | exact GMx_0 _ | exact hy9.2) (by first | rfl | omega | (exact hy9.1)) (by first | rfl | omega | (exact hy9.1))
          · skip
            refine ev_ild4 49 dX0_mostTried_47 rfl ?_
            refine tj_if_eq 62 52 dX0_mostTried_49 (by decide) rfl (by first | exact TR.rng hT _ _ _ | exact R31_of _ | exact bi_R _ | (constructor <;> omega)) (fun c49 => ?_) (fun c49 => ?_)
            · exact False.elim (by omega)
            · skip
              have hRf : R f := hMf.2.mp (by have := hMf.1; omega)
              have hSf : S f := by rw [hS]; exact ⟨hRf, hal⟩
              have hns : (nf f : Int) = sK (fun k => (dg f k : Int)) m := nf_sK hm (hR f hRf).2
              have hsk := sK_dg f m
              obtain ⟨y9, hy9⟩ : ∃ y9 : Int, (if z2 < sK (fun k => (dg f k : Int)) m then sK (fun k => (dg f k : Int)) m else z2) = y9 ∧ GMx S (f + 1) y9 := by by_cases q : z2 < sK (fun k => (dg f k : Int)) m; (exact ⟨(nf f : Int), by rw [if_pos q, hns], GMx_y hy hSf (by omega)⟩) ; (exact ⟨z2, if_neg q, GMx_n hy (fun _ => by omega)⟩)
              refine ev_ild2 53 dX0_mostTried_52 rfl ?_
              refine ev_ald0 54 dX0_mostTried_53 rfl ?_
              refine ev_ild3 55 dX0_mostTried_54 rfl ?_
              refine tc_V1 58 3 dX0_mostTried_55 lkv_X0_128 (tr17 hT) rfl rfl (by first | decide | omega) (Nat.le_of_ble_eq_true rfl) (c_X0_sumOf hT hA hm (by omega)) ?_
              refine tj_mmax 61 dX0_mostTried_58 mmax_X0_131 (by decide) (Nat.le_of_ble_eq_true rfl) rfl (by first | exact TR.rng hT _ _ _ | exact R31_of _ | exact bi_R _ | (constructor <;> omega)) (by first | exact TR.rng hT _ _ _ | exact R31_of _ | exact bi_R _ | (constructor <;> omega)) ?_
              refine ev_ist2 62 dX0_mostTried_61 rfl (by decide) rfl ?_
              refine tj_inc3 65 dX0_mostTried_62 rfl (by decide) rfl ?_
              refine ev_goto 4 dX0_mostTried_65 (by decide) ?_
              exact ih4 (f + 1) (y9) _ _ _ (by omega) (by first | omega | assumption | first | exact GMx_0 _ | exact hy9.2) (by first | omega | assumption | first | exact GMx_0 _ | exact hy9.2) (by first | rfl | omega | (exact hy9.1)) (by first | rfl | omega | (exact hy9.1))
        · skip
          obtain ⟨kz, hkz, zk⟩ := hz.resolve_left c14
          have a19 := (hA.2.1 kz hkz).2
          have hnk := hnd kz hkz
          have hdl := dg_le f kz
          refine ev_ild3 18 dX0_mostTried_17 rfl ?_
          refine ev_ild1 19 dX0_mostTried_18 rfl ?_
          refine tc_S2 22 dX0_mostTried_19 lks_X0_125 rfl (by first | decide | omega) (Nat.le_of_ble_eq_true rfl) (zk ▸ c_X0_countIn (f := f) (k := kz) (by omega) (by omega)) ?_
          refine ev_ald0 23 dX0_mostTried_22 rfl ?_
          refine ev_getfield 26 3 2 fl_X0_15_3 (tr17 hT) rfl dX0_mostTried_23 rfl ?_
          refine ev_ild1 27 dX0_mostTried_26 rfl ?_
          refine tv_iald 28 (tr19 hT) (kz) (by omega) (by omega) (by omega) dX0_mostTried_27 rfl ?_
          refine tj_icmp_ge 35 31 dX0_mostTried_28 (by decide) rfl (by first | exact TR.rng hT _ _ _ | exact R31_of _ | exact bi_R _ | (constructor <;> omega)) (by first | exact TR.rng hT _ _ _ | exact R31_of _ | exact bi_R _ | (constructor <;> omega)) (fun c28 => ?_) (fun c28 => ?_)
          · skip
            have hno : ¬ S f := fun q => by rw [hS] at q; have := q.2 kz zk; omega
            refine tj_iconst 36 dX0_mostTried_35 rfl ?_
            refine ev_ist4 38 dX0_mostTried_36 rfl (by decide) rfl ?_
            refine ev_ald0 39 dX0_mostTried_38 rfl ?_
            refine ev_getfield 42 3 9 fl_X0_36_3 (tr17 hT) rfl dX0_mostTried_39 rfl ?_
            refine ev_ild3 43 dX0_mostTried_42 rfl ?_
            refine tv_zald 44 (tr26 hT) (f) (by omega) (by omega) (by omega) dX0_mostTried_43 rfl ?_
            refine tj_if_eq 62 47 dX0_mostTried_44 (by decide) rfl (by first | exact TR.rng hT _ _ _ | exact R31_of _ | exact bi_R _ | (constructor <;> omega)) (fun c44 => ?_) (fun c44 => ?_)
            · skip
              obtain ⟨y9, hy9⟩ : ∃ y9 : Int, z2 = y9 ∧ GMx S (f + 1) y9 := ⟨z2, rfl, GMx_n hy (fun q => by rw [hS] at q; have := hMf.2.mpr q.1; omega)⟩
              refine tj_inc3 65 dX0_mostTried_62 rfl (by decide) rfl ?_
              refine ev_goto 4 dX0_mostTried_65 (by decide) ?_
              exact ih4 (f + 1) (y9) _ _ _ (by omega) (by first | omega | assumption | first | exact GMx_0 _ | exact hy9.2) (by first | omega | assumption | first | exact GMx_0 _ | exact hy9.2) (by first | rfl | omega | (exact hy9.1)) (by first | rfl | omega | (exact hy9.1))
            · skip
              refine ev_ild4 49 dX0_mostTried_47 rfl ?_
              refine tj_if_eq 62 52 dX0_mostTried_49 (by decide) rfl (by first | exact TR.rng hT _ _ _ | exact R31_of _ | exact bi_R _ | (constructor <;> omega)) (fun c49 => ?_) (fun c49 => ?_)
              · skip
                obtain ⟨y9, hy9⟩ : ∃ y9 : Int, z2 = y9 ∧ GMx S (f + 1) y9 := ⟨z2, rfl, GMx_n hy (fun q => absurd q hno)⟩
                refine tj_inc3 65 dX0_mostTried_62 rfl (by decide) rfl ?_
                refine ev_goto 4 dX0_mostTried_65 (by decide) ?_
                exact ih4 (f + 1) (y9) _ _ _ (by omega) (by first | omega | assumption | first | exact GMx_0 _ | exact hy9.2) (by first | omega | assumption | first | exact GMx_0 _ | exact hy9.2) (by first | rfl | omega | (exact hy9.1)) (by first | rfl | omega | (exact hy9.1))
              · exact False.elim (by omega)
          · skip
            have hal : ∀ k : Nat, z = (k : Int) → (dg f k : Int) < nd k := fun k e => by have e3 : k = kz := (by omega); rw [e3]; omega
            refine tj_iconst 32 dX0_mostTried_31 rfl ?_
            refine ev_goto 36 dX0_mostTried_32 (by decide) ?_
            refine ev_ist4 38 dX0_mostTried_36 rfl (by decide) rfl ?_
            refine ev_ald0 39 dX0_mostTried_38 rfl ?_
            refine ev_getfield 42 3 9 fl_X0_36_3 (tr17 hT) rfl dX0_mostTried_39 rfl ?_
            refine ev_ild3 43 dX0_mostTried_42 rfl ?_
            refine tv_zald 44 (tr26 hT) (f) (by omega) (by omega) (by omega) dX0_mostTried_43 rfl ?_
            refine tj_if_eq 62 47 dX0_mostTried_44 (by decide) rfl (by first | exact TR.rng hT _ _ _ | exact R31_of _ | exact bi_R _ | (constructor <;> omega)) (fun c44 => ?_) (fun c44 => ?_)
            · skip
              obtain ⟨y9, hy9⟩ : ∃ y9 : Int, z2 = y9 ∧ GMx S (f + 1) y9 := ⟨z2, rfl, GMx_n hy (fun q => by rw [hS] at q; have := hMf.2.mpr q.1; omega)⟩
              refine tj_inc3 65 dX0_mostTried_62 rfl (by decide) rfl ?_
              refine ev_goto 4 dX0_mostTried_65 (by decide) ?_
              exact ih4 (f + 1) (y9) _ _ _ (by omega) (by first | omega | assumption | first | exact GMx_0 _ | exact hy9.2) (by first | omega | assumption | first | exact GMx_0 _ | exact hy9.2) (by first | rfl | omega | (exact hy9.1)) (by first | rfl | omega | (exact hy9.1))
            · skip
              refine ev_ild4 49 dX0_mostTried_47 rfl ?_
              refine tj_if_eq 62 52 dX0_mostTried_49 (by decide) rfl (by first | exact TR.rng hT _ _ _ | exact R31_of _ | exact bi_R _ | (constructor <;> omega)) (fun c49 => ?_) (fun c49 => ?_)
              · exact False.elim (by omega)
              · skip
                have hRf : R f := hMf.2.mp (by have := hMf.1; omega)
                have hSf : S f := by rw [hS]; exact ⟨hRf, hal⟩
                have hns : (nf f : Int) = sK (fun k => (dg f k : Int)) m := nf_sK hm (hR f hRf).2
                have hsk := sK_dg f m
                obtain ⟨y9, hy9⟩ : ∃ y9 : Int, (if z2 < sK (fun k => (dg f k : Int)) m then sK (fun k => (dg f k : Int)) m else z2) = y9 ∧ GMx S (f + 1) y9 := by by_cases q : z2 < sK (fun k => (dg f k : Int)) m; (exact ⟨(nf f : Int), by rw [if_pos q, hns], GMx_y hy hSf (by omega)⟩) ; (exact ⟨z2, if_neg q, GMx_n hy (fun _ => by omega)⟩)
                refine ev_ild2 53 dX0_mostTried_52 rfl ?_
                refine ev_ald0 54 dX0_mostTried_53 rfl ?_
                refine ev_ild3 55 dX0_mostTried_54 rfl ?_
                refine tc_V1 58 3 dX0_mostTried_55 lkv_X0_128 (tr17 hT) rfl rfl (by first | decide | omega) (Nat.le_of_ble_eq_true rfl) (c_X0_sumOf hT hA hm (by omega)) ?_
                refine tj_mmax 61 dX0_mostTried_58 mmax_X0_131 (by decide) (Nat.le_of_ble_eq_true rfl) rfl (by first | exact TR.rng hT _ _ _ | exact R31_of _ | exact bi_R _ | (constructor <;> omega)) (by first | exact TR.rng hT _ _ _ | exact R31_of _ | exact bi_R _ | (constructor <;> omega)) ?_
                refine ev_ist2 62 dX0_mostTried_61 rfl (by decide) rfl ?_
                refine tj_inc3 65 dX0_mostTried_62 rfl (by decide) rfl ?_
                refine ev_goto 4 dX0_mostTried_65 (by decide) ?_
                exact ih4 (f + 1) (y9) _ _ _ (by omega) (by first | omega | assumption | first | exact GMx_0 _ | exact hy9.2) (by first | omega | assumption | first | exact GMx_0 _ | exact hy9.2) (by first | rfl | omega | (exact hy9.1)) (by first | rfl | omega | (exact hy9.1))
  exact lp4 _ (0) (0) _ _ _ (Nat.lt_succ_self _) (by first | omega | assumption | first | exact GMx_0 _ | exact hy9.2) (by first | omega | assumption | first | exact GMx_0 _ | exact hy9.2) (by first | rfl | omega | (exact hy9.1)) (by first | rfl | omega | (exact hy9.1))
theorem dg0_R {m : Nat} {g : Nat} (hm : m ≤ 4) {fit : Nat → Nat → Bool} {nd : Nat → Int} (hnd : ∀ k, k < m → 1 ≤ nd k ∧ nd k ≤ 3) {i : Nat} (q : Rc m fit nd 0 0 i g) : g < 256 ∧ ∀ k, m ≤ k → k < 4 → dg g k = 0 := ⟨Rc_lt hm (fun k hk => (hnd k hk).2) (by decide) i q, Rc_z hm (fun k hk => (hnd k hk).2) (by decide) (fun k _ _ => dg_0 k) i q⟩
theorem mt_all {m : Nat} {fit : Nat → Nat → Bool} {nd : Nat → Int} {i : Nat} : mx (fun g => Rc m fit nd 0 0 i g ∧ ∀ k : Nat, (-1 : Int) = (k : Int) → (dg g k : Int) < nd k) = mx (Rc m fit nd 0 0 i) := mx_cg (fun g => ⟨fun q => q.1, fun q => ⟨q, fun k e => absurd e (by omega)⟩⟩)
theorem mt_one {m : Nat} (hm : m ≤ 4) {fit : Nat → Nat → Bool} {nd : Nat → Int} (hnd : ∀ k, k < m → 1 ≤ nd k ∧ nd k ≤ 3) {i k0 : Nat} (hk : k0 < m) : mx (fun g => Rc m fit nd 0 0 i g ∧ ∀ k : Nat, (k0 : Int) = (k : Int) → (dg g k : Int) < nd k) = mx (Rc m fit (rm1 nd k0) 0 0 i) := mx_cg (fun g => by
  rw [Rc_rm1 (n := i) hm (fun k hk => (hnd k hk).2) (by decide) hk (fun j hj => by rw [dg_0]; have := hnd j hj; unfold rm1; split <;> omega) i g]
  constructor
  · rintro ⟨a, b⟩; exact ⟨a, b k0 rfl⟩
  · rintro ⟨a, b⟩
    refine ⟨a, fun k e => ?_⟩
    have e2 : k = k0 := by omega
    rw [e2]
    exact b)
set_option maxRecDepth 100000 in
set_option maxHeartbeats 4000000 in
theorem c_X0_tryAll {g : Gt} {α : AL} {ν : Nat → Nat → Bool} {X : XM} {h : AH} (hT : TR g α ν X h) {m : Nat} {it : Nat → Nat} {nd : Nat → Int} {ft : Nat → Nat → Bool} (hA : AU X m it nd ft) (hm : m ≤ 4) (hnd : ∀ k, k < m → 1 ≤ nd k ∧ nd k ≤ 3) : Mu g α ν M_X0_tryAll 5 [.ref (α 17 0)] h (some (.int (J (mx (Rc m ft nd 0 0 20))))) (fun X' => (∀ kk, kk ≠ 26 → X' kk = X kk) ∧ MC X' m (Rc m ft nd 0 0 20)) := by
  refine mu_of rfl rfl (ls := [some (.ref (α 17 0)), none]) rfl (Nat.le_of_ble_eq_true rfl) ?_
  show Ev g M_X0_tryAll 5 0 [some (.ref (α 17 0)), none] [] h 0 0 (UQ g α ν (some (.int (J (mx (Rc m ft nd 0 0 20))))) (fun X' => (∀ kk, kk ≠ 26 → X' kk = X kk) ∧ MC X' m (Rc m ft nd 0 0 20)))
  have a1 := hA.1
  have hsh := shl_R hm
  refine ev_ald0 1 dX0_tryAll_0 rfl ?_
  refine ev_getfield 4 3 9 fl_X0_36_3 (tr17 hT) rfl dX0_tryAll_1 rfl ?_
  refine tj_iconst 5 dX0_tryAll_4 rfl ?_
  refine tj_iconst 6 dX0_tryAll_5 rfl ?_
  refine tv_zast 7 hT (tv26 hT) (fun _ => rfl) (0) (by omega) (by omega) (by omega) (by first | omega | exact bi_01 _) dX0_tryAll_6 rfl (fun h hT => ?_)
  obtain ⟨X1, hX1⟩ : ∃ Z, Z = xs X 26 0 0 1 := ⟨_, rfl⟩
  rw [← hX1] at hT
  have hI0 : (∀ kk, kk ≠ 26 → X1 kk = X kk) ∧ X1 26 0 0 = 1 ∧ ∀ g, 1 ≤ g → g < 1 → X1 26 0 g = 0 := ⟨fun kk q => by rw [hX1, xs_nk q], by rw [hX1, xs_at, if_pos rfl], fun g g1 g2 => absurd g2 (by omega)⟩
  refine tj_iconst 8 dX0_tryAll_7 rfl ?_
  refine ev_ist1 9 dX0_tryAll_8 rfl (by decide) rfl ?_
  have lp9 : ∀ (n9 : Nat) (f : Nat) (z1 : Int)  (h : AH) (X2 : XM), 257 - f < n9 → (1 ≤ f) → (f ≤ 1 <<< (2 * m)) → z1 = (f : Int) → TR g α ν X2 h → ((∀ kk, kk ≠ 26 → X2 kk = X kk) ∧ X2 26 0 0 = 1 ∧ ∀ g, 1 ≤ g → g < f → X2 26 0 g = 0) → Ev g M_X0_tryAll 5 9 [some (.ref (α 17 0)), some (.int (J z1))] [] h 0 0 (UQ g α ν (some (.int (J (mx (Rc m ft nd 0 0 20))))) (fun X' => (∀ kk, kk ≠ 26 → X' kk = X kk) ∧ MC X' m (Rc m ft nd 0 0 20))) := by
    intro n9
    induction n9 with
    | zero => intro f z1 h X2 hm; exact absurd hm (Nat.not_lt_zero _)
    | succ n9 ih9 =>
      intro f z1 h X2 hm9 hf1 hf e1 hT hI
      subst e1
      have hA2 : AU X2 m it nd ft := AU_cg hA (hI.1 17 (by decide)) (hI.1 18 (by decide)) (hI.1 19 (by decide)) (hI.1 20 (by decide))
      refine ev_ild1 10 dX0_tryAll_9 rfl ?_
      refine ev_ald0 11 dX0_tryAll_10 rfl ?_
      refine tc_V0 14 3 dX0_tryAll_11 lkv_X0_116 (tr17 hT) rfl rfl (by first | decide | omega) (Nat.le_of_ble_eq_true rfl) (c_X0_trials hT hA2 hm) ?_
      refine tj_icmp_ge 30 17 dX0_tryAll_14 (by decide) rfl (by first | exact TR.rng hT _ _ _ | exact R31_of _ | exact bi_R _ | (constructor <;> omega)) (by first | exact TR.rng hT _ _ _ | exact R31_of _ | exact bi_R _ | (constructor <;> omega)) (fun c14 => ?_) (fun c14 => ?_)
      · skip
        have hI1 : (∀ kk, kk ≠ 26 → X2 kk = X kk) ∧ MC X2 m (Rc m ft nd 0 0 0) := ⟨hI.1, fun g hg => by by_cases e : g = 0; (rw [e, hI.2.1]; exact ⟨Or.inr rfl, ⟨fun _ => rfl, fun _ => rfl⟩⟩); (rw [hI.2.2 g (by omega) (by omega)]; exact ⟨Or.inl rfl, ⟨fun q => absurd q (by decide), fun q => absurd q e⟩⟩)⟩
        refine tj_iconst 31 dX0_tryAll_30 rfl ?_
        refine ev_ist1 32 dX0_tryAll_31 rfl (by decide) rfl ?_
        have lp32 : ∀ (n32 : Nat) (c : Nat) (z1 : Int)  (h : AH) (X3 : XM), 21 - c < n32 → (c ≤ 20) → z1 = (c : Int) → TR g α ν X3 h → ((∀ kk, kk ≠ 26 → X3 kk = X kk) ∧ MC X3 m (Rc m ft nd 0 0 c)) → Ev g M_X0_tryAll 5 32 [some (.ref (α 17 0)), some (.int (J z1))] [] h 0 0 (UQ g α ν (some (.int (J (mx (Rc m ft nd 0 0 20))))) (fun X' => (∀ kk, kk ≠ 26 → X' kk = X kk) ∧ MC X' m (Rc m ft nd 0 0 20))) := by
          intro n32
          induction n32 with
          | zero => intro c z1 h X3 hm; exact absurd hm (Nat.not_lt_zero _)
          | succ n32 ih32 =>
            intro c z1 h X3 hm32 hc e1 hT hI
            subst e1
            have hA3 : AU X3 m it nd ft := AU_cg hA (hI.1 17 (by decide)) (hI.1 18 (by decide)) (hI.1 19 (by decide)) (hI.1 20 (by decide))
            refine ev_ild1 33 dX0_tryAll_32 rfl ?_
            refine tj_bipush 35 dX0_tryAll_33 (by decide) rfl ?_
            refine tj_icmp_ge 58 38 dX0_tryAll_35 (by decide) rfl (by first | exact TR.rng hT _ _ _ | exact R31_of _ | exact bi_R _ | (constructor <;> omega)) (by first | exact TR.rng hT _ _ _ | exact R31_of _ | exact bi_R _ | (constructor <;> omega)) (fun c35 => ?_) (fun c35 => ?_)
            · skip
              refine ev_ald0 59 dX0_tryAll_58 rfl ?_
              refine tj_iconst 60 dX0_tryAll_59 rfl ?_
              refine tc_V1 63 3 dX0_tryAll_60 lkv_X0_122 (tr17 hT) rfl rfl (by first | decide | omega) (Nat.le_of_ble_eq_true rfl) (c_X0_mostTried hT hA3 hm hnd (z := -1) (R := Rc m ft nd 0 0 20) ((show c = 20 by omega) ▸ hI.2) (fun g q => dg0_R hm hnd q) (Or.inl rfl) (g0 := 0) ⟨Rc_self 20, fun k e => absurd e (by omega)⟩) ?_
              exact ev_ireturn (uq_i (by first | rfl | omega | exact bi_dt (by omega) | exact bi_df (by omega) | (exact mt_all)) hT (by exact ⟨hI.1, (show c = 20 by omega) ▸ hI.2⟩)) rfl dX0_tryAll_63
            · skip
              refine ev_ald0 39 dX0_tryAll_38 rfl ?_
              refine ev_getfield 42 3 3 fl_X0_18_3 (tr17 hT) rfl dX0_tryAll_39 rfl ?_
              refine ev_ild1 43 dX0_tryAll_42 rfl ?_
              refine tv_iald 44 (tr20 hT) (c) (by omega) (by omega) (by omega) dX0_tryAll_43 rfl ?_
              refine tj_if_eq 52 47 dX0_tryAll_44 (by decide) rfl (by first | exact TR.rng hT _ _ _ | exact R31_of _ | exact bi_R _ | (constructor <;> omega)) (fun c44 => ?_) (fun c44 => ?_)
              · skip
                have hb := hA3.2.2 c (by omega)
                rw [c44] at hb
                have hnf : ∀ k, k < m → ft c k = false := fun k hk => by have q : (decide (k < m) && ft c k) = false := bts_0 hb (by omega); rw [decide_eq_true hk, Bool.true_and] at q; exact q
                refine tj_inc1 55 dX0_tryAll_52 rfl (by decide) rfl ?_
                refine ev_goto 32 dX0_tryAll_55 (by decide) ?_
                exact ih32 (c + 1) _ _ _ (by omega) (by first | omega | assumption | omega) (by first | rfl | omega | (omega)) hT (by first | assumption | (first | exact hI1 | exact ⟨hI.1, MC_cg hI.2 (fun g => Rc_nof hnf g)⟩ | exact ⟨fun kk q => by rw [hP49.1 kk q]; exact hI.1 kk q, hP49.2⟩))
              · skip
                refine ev_ald0 48 dX0_tryAll_47 rfl ?_
                refine ev_ild1 49 dX0_tryAll_48 rfl ?_
                refine tmv_V1 52 3 dX0_tryAll_49 lkv_X0_119 (tr17 hT) rfl rfl (by first | decide | omega) (Nat.le_of_ble_eq_true rfl) (c_X0_tryCourse hT hA3 hm hnd (c := c) (by omega) hI.2) (fun h X1 hT hP49 => ?_)
                refine tj_inc1 55 dX0_tryAll_52 rfl (by decide) rfl ?_
                refine ev_goto 32 dX0_tryAll_55 (by decide) ?_
                exact ih32 (c + 1) _ _ _ (by omega) (by first | omega | assumption | omega) (by first | rfl | omega | (omega)) hT (by first | assumption | (first | exact hI1 | exact ⟨hI.1, MC_cg hI.2 (fun g => Rc_nof hnf g)⟩ | exact ⟨fun kk q => by rw [hP49.1 kk q]; exact hI.1 kk q, hP49.2⟩))
        exact lp32 _ (0) _ _ _ (Nat.lt_succ_self _) (by first | omega | assumption | omega) (by first | rfl | omega | (omega)) hT (by first | assumption | (first | exact hI1 | exact ⟨hI.1, MC_cg hI.2 (fun g => Rc_nof hnf g)⟩ | exact ⟨fun kk q => by rw [hP49.1 kk q]; exact hI.1 kk q, hP49.2⟩))
      · skip
        refine ev_ald0 18 dX0_tryAll_17 rfl ?_
        refine ev_getfield 21 3 9 fl_X0_36_3 (tr17 hT) rfl dX0_tryAll_18 rfl ?_
        refine ev_ild1 22 dX0_tryAll_21 rfl ?_
        refine tj_iconst 23 dX0_tryAll_22 rfl ?_
        refine tv_zast 24 hT (tv26 hT) (fun _ => rfl) (f) (by omega) (by omega) (by omega) (by first | omega | exact bi_01 _) dX0_tryAll_23 rfl (fun h hT => ?_)
        refine tj_inc1 27 dX0_tryAll_24 rfl (by decide) rfl ?_
        refine ev_goto 9 dX0_tryAll_27 (by decide) ?_
        exact ih9 (f + 1) _ _ _ (by omega) (by first | omega | assumption | omega) (by first | omega | assumption | omega) (by first | rfl | omega | (omega)) hT (by first | assumption | (first | exact hI0 | exact ⟨fun kk q => by rw [xs_nk q]; exact hI.1 kk q, by rw [xs_at, if_neg (by omega)]; exact hI.2.1, fun g g1 g2 => by rw [xs_at]; by_cases e : g = f; (rw [if_pos e]); (rw [if_neg e]; exact hI.2.2 g g1 (by omega))⟩))
  exact lp9 _ (1) _ _ _ (Nat.lt_succ_self _) (by first | omega | assumption | omega) (by first | omega | assumption | omega) (by first | rfl | omega | (omega)) hT (by first | assumption | (first | exact hI0 | exact ⟨fun kk q => by rw [xs_nk q]; exact hI.1 kk q, by rw [xs_at, if_neg (by omega)]; exact hI.2.1, fun g g1 g2 => by rw [xs_at]; by_cases e : g = f; (rw [if_pos e]); (rw [if_neg e]; exact hI.2.2 g g1 (by omega))⟩))
set_option maxRecDepth 100000 in
set_option maxHeartbeats 4000000 in
theorem c_X0_ruleBits {g : Gt} {α : AL} {ν : Nat → Nat → Bool} {X : XM} {h : AH} (hT : TR g α ν X h) {m : Nat} {it : Nat → Nat} {nd : Nat → Int} {ft : Nat → Nat → Bool} (hA : AU X m it nd ft) (hm : m ≤ 4) (hit : ∀ k, k < m → it k < 16) (hinc : ∀ k k2, k < k2 → k2 < m → it k < it k2) {S : Nat} (hS : S < 16) : Pr g M_X0_ruleBits 0 [.ref (α 17 0), .int (J (S : Int))] h (some (.int (J (lkV it (fun k => S.testBit k) m : Int)))) := by
  refine pr_of rfl rfl (ls := [some (.ref (α 17 0)), some (.int (J (S : Int))), none, none]) rfl (Nat.le_of_ble_eq_true rfl) ?_
  show Ev g M_X0_ruleBits 0 0 [some (.ref (α 17 0)), some (.int (J (S : Int))), none, none] [] h 0 0 (PQ (some (.int (J (lkV it (fun k => S.testBit k) m : Int)))) h)
  have a1 := hA.1
  refine tj_iconst 1 dX0_ruleBits_0 rfl ?_
  refine ev_ist2 2 dX0_ruleBits_1 rfl (by decide) rfl ?_
  refine tj_iconst 3 dX0_ruleBits_2 rfl ?_
  refine ev_ist3 4 dX0_ruleBits_3 rfl (by decide) rfl ?_
  have lp4 : ∀ (n4 : Nat) (k : Nat) (z2 : Int) (z3 : Int) , 5 - k < n4 → (k ≤ m) → z2 = (lkV it (fun k => S.testBit k) k : Int) → z3 = (k : Int) → Ev g M_X0_ruleBits 0 4 [some (.ref (α 17 0)), some (.int (J (S : Int))), some (.int (J z2)), some (.int (J z3))] [] h 0 0 (PQ (some (.int (J (lkV it (fun k => S.testBit k) m : Int)))) h) := by
    intro n4
    induction n4 with
    | zero => intro k z2 z3 hm; exact absurd hm (Nat.not_lt_zero _)
    | succ n4 ih4 =>
      intro k z2 z3 hm4 hk e2 e3
      subst e2
      subst e3
      have hlk := lkV_lt (it := it) (p := fun k => S.testBit k) k 16 (fun j hj => hit j (by omega)) (fun j j2 q q2 => hinc j j2 q (by omega))
      have hr : ((S >>> k &&& 1 : Nat) : Int) ≤ 1 := by have := Nat.and_le_right (n := S >>> k) (m := 1); omega
      refine ev_ild3 5 dX0_ruleBits_4 rfl ?_
      refine ev_ald0 6 dX0_ruleBits_5 rfl ?_
      refine ev_getfield 9 3 0 fl_X0_40_3 (tr17 hT) rfl dX0_ruleBits_6 rfl ?_
      refine tj_icmp_ge 37 12 dX0_ruleBits_9 (by decide) rfl (by first | exact TR.rng hT _ _ _ | exact R31_of _ | exact bi_R _ | (constructor <;> omega)) (by first | exact TR.rng hT _ _ _ | exact R31_of _ | exact bi_R _ | (constructor <;> omega)) (fun c9 => ?_) (fun c9 => ?_)
      · skip
        refine ev_ild2 38 dX0_ruleBits_37 rfl ?_
        exact ev_ireturn (pq_i (by first | rfl | omega | exact bi_dt (by omega) | exact bi_df (by omega) | (rw [show k = m by omega]))) rfl dX0_ruleBits_38
      · skip
        have hitk := hit k (by omega)
        refine ev_ild1 13 dX0_ruleBits_12 rfl ?_
        refine ev_ild3 14 dX0_ruleBits_13 rfl ?_
        refine tj_ishr 15 dX0_ruleBits_14 S k rfl rfl (by omega) (by omega) rfl ?_
        refine tj_iconst 16 dX0_ruleBits_15 rfl ?_
        refine tj_iand 17 dX0_ruleBits_16 _ 1 rfl rfl rfl ?_
        refine tj_if_eq 31 20 dX0_ruleBits_17 (by decide) rfl (by first | exact TR.rng hT _ _ _ | exact R31_of _ | exact bi_R _ | (constructor <;> omega)) (fun c17 => ?_) (fun c17 => ?_)
        · skip
          have hb : S.testBit k = false := by have := hb_0 (n := S) (k := k) (by omega); cases w : S.testBit k; rfl; (rw [w] at this; exact absurd this (by decide))
          refine tj_inc3 34 dX0_ruleBits_31 rfl (by decide) rfl ?_
          refine ev_goto 4 dX0_ruleBits_34 (by decide) ?_
          exact ih4 (k + 1) _ _ (by omega) (by first | omega | assumption | omega) (by first | rfl | omega | (first | rfl | (rw [lkV, if_neg (by rw [hb]; decide)]; rfl) | (rw [lkV, if_pos hb, lkV_or (fun j j2 q q2 => hinc j j2 q (by omega))]))) (by first | rfl | omega | (first | rfl | (rw [lkV, if_neg (by rw [hb]; decide)]; rfl) | (rw [lkV, if_pos hb, lkV_or (fun j j2 q q2 => hinc j j2 q (by omega))])))
        · skip
          have hb : S.testBit k = true := by have := hb_1 (n := S) (k := k) (by omega); cases w : S.testBit k; (rw [w] at this; exact absurd this (by decide)); rfl
          refine ev_ild2 21 dX0_ruleBits_20 rfl ?_
          refine tj_iconst 22 dX0_ruleBits_21 rfl ?_
          refine ev_ald0 23 dX0_ruleBits_22 rfl ?_
          refine ev_getfield 26 3 1 fl_X0_11_3 (tr17 hT) rfl dX0_ruleBits_23 rfl ?_
          refine ev_ild3 27 dX0_ruleBits_26 rfl ?_
          refine tv_iald 28 (tr18 hT) (k) (by omega) (by omega) (by omega) dX0_ruleBits_27 rfl ?_
          refine tj_ishl 29 dX0_ruleBits_28 1 (it k) rfl (hA.2.1 k (by omega)).1 (by omega) rfl ?_
          refine tj_ior 30 dX0_ruleBits_29 (lkV it (fun k => S.testBit k) k) (1 <<< it k) rfl rfl rfl ?_
          refine ev_ist2 31 dX0_ruleBits_30 rfl (by decide) rfl ?_
          refine tj_inc3 34 dX0_ruleBits_31 rfl (by decide) rfl ?_
          refine ev_goto 4 dX0_ruleBits_34 (by decide) ?_
          exact ih4 (k + 1) _ _ (by omega) (by first | omega | assumption | omega) (by first | rfl | omega | (first | rfl | (rw [lkV, if_neg (by rw [hb]; decide)]; rfl) | (rw [lkV, if_pos hb, lkV_or (fun j j2 q q2 => hinc j j2 q (by omega))]))) (by first | rfl | omega | (first | rfl | (rw [lkV, if_neg (by rw [hb]; decide)]; rfl) | (rw [lkV, if_pos hb, lkV_or (fun j j2 q q2 => hinc j j2 q (by omega))])))
  exact lp4 _ (0) _ _ (Nat.lt_succ_self _) (by first | omega | assumption | omega) (by first | rfl | omega | (first | rfl | (rw [lkV, if_neg (by rw [hb]; decide)]; rfl) | (rw [lkV, if_pos hb, lkV_or (fun j j2 q q2 => hinc j j2 q (by omega))]))) (by first | rfl | omega | (first | rfl | (rw [lkV, if_neg (by rw [hb]; decide)]; rfl) | (rw [lkV, if_pos hb, lkV_or (fun j j2 q q2 => hinc j j2 q (by omega))])))
theorem and_all : ∀ a b : Fin 16, a.val &&& b.val = 0 ↔ ∀ k : Fin 4, ¬ (a.val.testBit k.val = true ∧ b.val.testBit k.val = true) := by decide +kernel
theorem and_0 {a b : Nat} (ha : a < 16) (hb : b < 16) : a &&& b = 0 ↔ ∀ k, k < 4 → ¬ (a.testBit k = true ∧ b.testBit k = true) := by
  have e := and_all ⟨a, ha⟩ ⟨b, hb⟩
  exact e.trans ⟨fun h k hk => h ⟨k, hk⟩, fun h k => h k.val k.isLt⟩
theorem eq_all : ∀ a b : Fin 16, (∀ k : Fin 4, a.val.testBit k.val = b.val.testBit k.val) → a = b := by decide +kernel
theorem eq_16 {a b : Nat} (ha : a < 16) (hb : b < 16) (h : ∀ k, k < 4 → a.testBit k = b.testBit k) : a = b := congrArg Fin.val (eq_all ⟨a, ha⟩ ⟨b, hb⟩ (fun k => h k.val k.isLt))
theorem or_all : ∀ a : Fin 16, ∀ j : Fin 4, (a.val ||| 1 <<< j.val) < 16 ∧ ∀ k : Fin 4, (a.val ||| 1 <<< j.val).testBit k.val = (a.val.testBit k.val || decide (k.val = j.val)) := by decide +kernel
theorem or_1 {a j : Nat} (ha : a < 16) (hj : j < 4) : (a ||| 1 <<< j) < 16 ∧ ∀ k, k < 4 → (a ||| 1 <<< j).testBit k = (a.testBit k || decide (k = j)) := by
  obtain ⟨e1, e2⟩ := or_all ⟨a, ha⟩ ⟨j, hj⟩
  exact ⟨e1, fun k hk => e2 ⟨k, hk⟩⟩
/-- no course of a slot outside fits a slot inside -/
def ClS (m : Nat) (fit : Nat → Nat → Bool) (G : Nat → Int) (S : Nat → Bool) (n : Nat) : Prop := ∀ c, c < n → ∀ j, j < m → G c = (j : Int) → ∀ i, i < m → fit c i = true → S i = true → S j = true
theorem SW_cg {m : Nat} {fit : Nat → Nat → Bool} {rm G : Nat → Int} {F S S2 : Nat → Bool} (h : SW m fit rm G F S) (e : ∀ k, k < m → S2 k = S k) : SW m fit rm G F S2 := by
  refine ⟨fun k hk q => ?_, fun k hk q => h.2 k hk (by rw [← e k hk]; exact q)⟩
  obtain ⟨H, h1, h2, h3, h4, h5⟩ := h.1 k hk (by rw [← e k hk]; exact q)
  exact ⟨H, h1, h2, h3, h4, fun c hc j hj q1 q2 => h5 c hc j hj q1 (by rw [← e j hj]; exact q2)⟩
theorem cnt_grow {S S2 : Nat → Bool} {j m : Nat} (hj : j < m) (h0 : S j = false) (h1 : S2 j = true) (h : ∀ k, k < m → k ≠ j → S2 k = S k) : cnt S2 m = cnt S m + 1 := by
  have e : cnt S2 m = cnt (fun k => if k = j then true else S k) m := cnt_cg m (fun k hk => by
    show S2 k = if k = j then true else S k
    by_cases q : k = j
    · rw [if_pos q, q]; exact h1
    · rw [if_neg q]; exact h k hk q)
  rw [e, cnt_set (p := S) (c := j) h0 (if_pos rfl) (fun k q => if_neg q) m, if_pos hj]
theorem cnt_full {S : Nat → Bool} : ∀ m : Nat, (m : Int) ≤ cnt S m → ∀ k, k < m → S k = true
  | 0, _, k, hk => absurd hk (Nat.not_lt_zero k)
  | m + 1, h, k, hk => by
    rw [cnt_s] at h
    have q := cnt_0 S m
    by_cases e : k = m
    · subst e
      cases w : S k with
      | true => rfl
      | false => rw [w, if_neg (by decide)] at h; omega
    · refine cnt_full m ?_ k (by omega)
      split at h <;> omega
/-- which slots are short in a best match -/
noncomputable def shQ (m : Nat) (ft : Nat → Nat → Bool) (nd : Nat → Int) (k : Nat) : Bool := decide (mx (Rc m ft (rm1 nd k) 0 0 20) = mx (Rc m ft nd 0 0 20))
theorem shQ_of {m : Nat} {ft : Nat → Nat → Bool} {nd G got : Nat → Int} {v : Int} {S : Nat → Bool} (hm : m ≤ 4) (hnd : ∀ k, k < m → 1 ≤ nd k ∧ nd k ≤ 3) (hG : GS m ft nd 0 20 G got v) (hF : ∃ F, CL m ft nd F G got ∧ (∀ c, c < 20 → G c = -1 → ∀ k, k < m → ft c k = true → F k = true) ∧ SW m ft nd G F S) (hS0 : ∀ k, k < m → got k < nd k → S k = true) (hc : ClS m ft G S 20) {k : Nat} (hk : k < m) : S k = shQ m ft nd k := by
  obtain ⟨h1, h2, h3, h4, h5, -⟩ := hG
  obtain ⟨F, f1, f2, f3⟩ := hF
  have hr3 : ∀ j, j < m → nd j ≤ 3 := fun j hj => (hnd j hj).2
  have hr1 : ∀ j, j < m → rm1 nd k j ≤ 3 := fun j hj => Int.le_trans (rm1_le k j hj) (hr3 j hj)
  have hmax : IsMax (Rc m ft nd 0 0 20) v := by
    have := match_max (m := m) (fit := ft) (rm := nd) (fr := 0) (fill := 0) (G := G) (n := 20) (F := F) hm hr3 (by decide) (fun k _ _ => dg_0 k) (fun j hj => by rw [Nat.zero_add]; exact h1 j hj) (fun j hj => by rw [dg_0, ← h2 j hj]; have := h3 j hj; omega) (fun j hj q => by rw [dg_0, ← h2 j hj]; have := f1.1 j hj q; omega) (fun j hj k2 hk2 e q i hi hf => by rw [Nat.zero_add] at e hf; exact f1.2 j hj k2 hk2 e q i hi hf) (fun j hj e i hi hf => by rw [Nat.zero_add] at e hf; exact f2 j hj e i hi hf)
    have e0 : (nf 0 : Int) = 0 := by decide
    rw [e0, Int.zero_add] at this
    rw [h5]
    have e1 : cnt (fun c => decide (G c ≠ -1)) 20 = cnt (fun j => decide (G (0 + j) ≠ -1)) 20 := cnt_cg 20 (fun j _ => by rw [Nat.zero_add])
    rw [e1]
    exact this
  unfold shQ
  cases w : S k with
  | true =>
    have a := AM_yes hm hr3 hk hmax h5 (f3.1 k hk w)
    rw [mx_eq a, mx_eq hmax]
    exact (decide_eq_true rfl).symm
  | false =>
    have a := AM_no (got := got) (S := S) (F := F) hm hr3 (fun j hj => (hnd j hj).1) hk h1 h2 hS0 h3 (fun c hc2 j hj e i hi hf q => hc c hc2 j hj e i hi hf q) f3.2 f2 w
    obtain ⟨-, g, b, d⟩ := mx_ex (R := Rc m ft (rm1 nd k) 0 0 20) (Rc_self 20) (fun g q => Rc_lt hm hr1 (by decide) 20 q)
    have e := a g b
    rw [mx_eq hmax]
    exact (decide_eq_false (by rw [← d, h5]; omega)).symm
theorem sh_step {m c j i S S1 S2 : Nat} {ft : Nat → Nat → Bool} {G : Nat → Int} (hS16 : S < 16) (hS26 : S2 < 16) (hor : ∀ k, k < 4 → S2.testBit k = (S.testBit k || decide (k = j))) (hm : m ≤ 4) (hc : c < 20) (hj : j < m) (hG : G c = (j : Int)) (hi : i < m) (hf : ft c i = true) (hS : S.testBit i = true) (h : (S = S1 ∧ ClS m ft G (fun k => S.testBit k) c) ∨ (¬ ClS m ft G (fun k => S1.testBit k) 20 ∧ cnt (fun k => S1.testBit k) m + 1 ≤ cnt (fun k => S.testBit k) m)) : (S2 = S1 ∧ ClS m ft G (fun k => S2.testBit k) (c + 1)) ∨ (¬ ClS m ft G (fun k => S1.testBit k) 20 ∧ cnt (fun k => S1.testBit k) m + 1 ≤ cnt (fun k => S2.testBit k) m) := by
  have hle : cnt (fun k => S.testBit k) m ≤ cnt (fun k => S2.testBit k) m := by
    have e : cnt (fun k => S2.testBit k) m = cnt (fun k => S.testBit k || decide (k = j)) m := cnt_cg m (fun k hk => hor k (by omega))
    rw [e]
    exact cnt_lem (fun k q => by rw [q]; rfl) m
  rcases h with ⟨e, q⟩ | ⟨q1, q2⟩
  · cases w : S.testBit j with
    | true =>
      have e3 : S2 = S := eq_16 hS26 hS16 (fun k hk => by
        rw [hor k hk]
        by_cases q2 : k = j
        · rw [q2, w]; rfl
        · rw [decide_eq_false q2, Bool.or_false])
      refine Or.inl ⟨e3.trans e, fun c9 h9 j9 hj9 ej i9 hi9 hf9 qS => ?_⟩
      rw [e3] at qS ⊢
      by_cases z : c9 = c
      · rw [z, hG] at ej
        have : j9 = j := by omega
        rw [this]
        exact w
      · exact q c9 (by omega) j9 hj9 ej i9 hi9 hf9 qS
    | false =>
      refine Or.inr ⟨fun z => ?_, ?_⟩
      · have := z c hc j hj hG i hi hf (by rw [← e]; exact hS)
        rw [← e] at this
        have t : S.testBit j = true := this
        rw [w] at t
        cases t
      · rw [← e, cnt_grow (S := fun k => S.testBit k) (S2 := fun k => S2.testBit k) hj w (by show S2.testBit j = true; rw [hor j (by omega)]; simp) (fun k hk q3 => by show S2.testBit k = S.testBit k; rw [hor k (by omega), decide_eq_false q3, Bool.or_false])]
        omega
  · exact Or.inr ⟨q1, by omega⟩
theorem GS_rm {m : Nat} {fit : Nat → Nat → Bool} {rm rm2 : Nat → Int} {fr n : Nat} {G got : Nat → Int} {v : Int} (h : GS m fit rm fr n G got v) (e : ∀ k, k < m → rm k = rm2 k) : GS m fit rm2 fr n G got v := by
  obtain ⟨h1, h2, h3, h4, h5, F, h6, h7⟩ := h
  exact ⟨h1, h2, fun k hk => by rw [← e k hk]; exact h3 k hk, h4, h5, F, ⟨fun k hk q => by rw [← e k hk]; exact h6.1 k hk q, h6.2⟩, h7⟩
set_option maxRecDepth 100000 in
set_option maxHeartbeats 4000000 in
theorem c_X0_shortRules {g : Gt} {α : AL} {ν : Nat → Nat → Bool} {X : XM} {h : AH} (hT : TR g α ν X h) {m : Nat} {it : Nat → Nat} {nd : Nat → Int} {ft : Nat → Nat → Bool} (hA : AU X m it nd ft) (hm : m ≤ 4) (hnd : ∀ k, k < m → 1 ≤ nd k ∧ nd k ≤ 3) (hit : ∀ k, k < m → it k < 16) (hinc : ∀ k k2, k < k2 → k2 < m → it k < it k2) {v : Int} (hG : GS m ft (X 21 0) 0 20 (X 23 0) (X 22 0) v) (h21 : ∀ k, k < m → X 21 0 k = nd k) : Pr g M_X0_shortRules 1 [.ref (α 17 0)] h (some (.int (J (lkV it (shQ m ft nd) m : Int)))) := by
  refine pr_of rfl rfl (ls := [some (.ref (α 17 0)), none, none, none]) rfl (Nat.le_of_ble_eq_true rfl) ?_
  show Ev g M_X0_shortRules 1 0 [some (.ref (α 17 0)), none, none, none] [] h 0 0 (PQ (some (.int (J (lkV it (shQ m ft nd) m : Int)))) h)
  have a1 := hA.1
  have hG := GS_rm hG h21
  obtain ⟨g1, g2, g3, g4, g5, F, g6, g7⟩ := id hG
  refine tj_iconst 1 dX0_shortRules_0 rfl ?_
  refine ev_ist1 2 dX0_shortRules_1 rfl (by decide) rfl ?_
  refine tj_iconst 3 dX0_shortRules_2 rfl ?_
  refine ev_ist2 4 dX0_shortRules_3 rfl (by decide) rfl ?_
  have lp4 : ∀ (n4 : Nat) (k S : Nat) (z1 : Int) (z2 : Int) (o3 : Option Value), 5 - k < n4 → (k ≤ m) → (S < 16) → (∀ j, j < 4 → S.testBit j = (decide (j < k) && decide (X 22 0 j < nd j))) → z1 = (S : Int) → z2 = (k : Int) → Ev g M_X0_shortRules 1 4 [some (.ref (α 17 0)), some (.int (J z1)), some (.int (J z2)), o3] [] h 0 0 (PQ (some (.int (J (lkV it (shQ m ft nd) m : Int)))) h) := by
    intro n4
    induction n4 with
    | zero => intro k S z1 z2 o3 hm; exact absurd hm (Nat.not_lt_zero _)
    | succ n4 ih4 =>
      intro k S z1 z2 o3 hm4 hk hS hb e1 e2
      subst e1
      subst e2
      refine ev_ild2 5 dX0_shortRules_4 rfl ?_
      refine ev_ald0 6 dX0_shortRules_5 rfl ?_
      refine ev_getfield 9 3 0 fl_X0_40_3 (tr17 hT) rfl dX0_shortRules_6 rfl ?_
      refine tj_icmp_ge 39 12 dX0_shortRules_9 (by decide) rfl (by first | exact TR.rng hT _ _ _ | exact R31_of _ | exact bi_R _ | (constructor <;> omega)) (by first | exact TR.rng hT _ _ _ | exact R31_of _ | exact bi_R _ | (constructor <;> omega)) (fun c9 => ?_) (fun c9 => ?_)
      · skip
        have hSS : ∀ j, j < m → S.testBit j = decide (X 22 0 j < nd j) := fun j hj => by rw [hb j (by omega), decide_eq_true (show j < k by omega), Bool.true_and]
        have hSW0 : ∃ F, CL m ft nd F (X 23 0) (X 22 0) ∧ (∀ c, c < 20 → X 23 0 c = -1 → ∀ k, k < m → ft c k = true → F k = true) ∧ SW m ft nd (X 23 0) F (fun k => S.testBit k) := ⟨F, g6, fun c hc e => g7 c (Nat.zero_le c) hc e, SW_0 g1 g2 g3 g6 hSS⟩
        have hS00 : ∀ k, k < m → X 22 0 k < nd k → S.testBit k = true := fun k hk q => by rw [hSS k hk]; exact decide_eq_true q
        refine tj_iconst 40 dX0_shortRules_39 rfl ?_
        refine ev_ist2 41 dX0_shortRules_40 rfl (by decide) rfl ?_
        have lp41 : ∀ (n41 : Nat) (r S : Nat) (z1 : Int) (z2 : Int) (o3 : Option Value), 5 - r < n41 → (r ≤ m) → (S < 16) → (∃ F, CL m ft nd F (X 23 0) (X 22 0) ∧ (∀ c, c < 20 → X 23 0 c = -1 → ∀ k, k < m → ft c k = true → F k = true) ∧ SW m ft nd (X 23 0) F (fun k => S.testBit k)) → (∀ k, k < m → X 22 0 k < nd k → S.testBit k = true) → (ClS m ft (X 23 0) (fun k => S.testBit k) 20 ∨ (r : Int) ≤ cnt (fun k => S.testBit k) m) → z1 = (S : Int) → z2 = (r : Int) → Ev g M_X0_shortRules 1 41 [some (.ref (α 17 0)), some (.int (J z1)), some (.int (J z2)), o3] [] h 0 0 (PQ (some (.int (J (lkV it (shQ m ft nd) m : Int)))) h) := by
          intro n41
          induction n41 with
          | zero => intro r S z1 z2 o3 hm; exact absurd hm (Nat.not_lt_zero _)
          | succ n41 ih41 =>
            intro r S z1 z2 o3 hm41 hr hS hSW hS0 hcl e1 e2
            subst e1
            subst e2
            refine ev_ild2 42 dX0_shortRules_41 rfl ?_
            refine ev_ald0 43 dX0_shortRules_42 rfl ?_
            refine ev_getfield 46 3 0 fl_X0_40_3 (tr17 hT) rfl dX0_shortRules_43 rfl ?_
            refine tj_icmp_ge 101 49 dX0_shortRules_46 (by decide) rfl (by first | exact TR.rng hT _ _ _ | exact R31_of _ | exact bi_R _ | (constructor <;> omega)) (by first | exact TR.rng hT _ _ _ | exact R31_of _ | exact bi_R _ | (constructor <;> omega)) (fun c46 => ?_) (fun c46 => ?_)
            · skip
              have hcl3 : ClS m ft (X 23 0) (fun k => S.testBit k) 20 := by rcases hcl with q | q; exact q; exact fun c hc j hj e i hi hf q2 => cnt_full (S := fun k => S.testBit k) m (by omega) j hj
              refine ev_ald0 102 dX0_shortRules_101 rfl ?_
              refine ev_ild1 103 dX0_shortRules_102 rfl ?_
              refine tc_V1 106 3 dX0_shortRules_103 lkv_X0_113 (tr17 hT) rfl rfl (by first | decide | omega) (Nat.le_of_ble_eq_true rfl) (c_X0_ruleBits hT hA hm hit hinc hS) ?_
              exact ev_ireturn (pq_i (by first | rfl | omega | exact bi_dt (by omega) | exact bi_df (by omega) | (exact congrArg (fun (z : Nat) => (z : Int)) (lkV_cg m (fun k hk => shQ_of hm hnd hG hSW hS0 hcl3 hk))))) rfl dX0_shortRules_106
            · skip
              obtain ⟨S1, hS1⟩ : ∃ z : Nat, z = S := ⟨S, rfl⟩
              rw [← hS1] at hS hSW hS0 hcl ⊢
              refine tj_iconst 50 dX0_shortRules_49 rfl ?_
              refine ev_ist3 51 dX0_shortRules_50 rfl (by decide) rfl ?_
              have lp51 : ∀ (n51 : Nat) (c S : Nat) (z1 : Int) (z3 : Int) , 21 - c < n51 → (c ≤ 20) → (S < 16) → (∃ F, CL m ft nd F (X 23 0) (X 22 0) ∧ (∀ c, c < 20 → X 23 0 c = -1 → ∀ k, k < m → ft c k = true → F k = true) ∧ SW m ft nd (X 23 0) F (fun k => S.testBit k)) → (∀ k, k < m → X 22 0 k < nd k → S.testBit k = true) → ((S = S1 ∧ ClS m ft (X 23 0) (fun k => S.testBit k) c) ∨ (¬ ClS m ft (X 23 0) (fun k => S1.testBit k) 20 ∧ cnt (fun k => S1.testBit k) m + 1 ≤ cnt (fun k => S.testBit k) m)) → z1 = (S : Int) → z3 = (c : Int) → Ev g M_X0_shortRules 1 51 [some (.ref (α 17 0)), some (.int (J z1)), some (.int (J (r : Int))), some (.int (J z3))] [] h 0 0 (PQ (some (.int (J (lkV it (shQ m ft nd) m : Int)))) h) := by
                intro n51
                induction n51 with
                | zero => intro c S z1 z3 hm; exact absurd hm (Nat.not_lt_zero _)
                | succ n51 ih51 =>
                  intro c S z1 z3 hm51 hc hS hSW hS0 hst e1 e3
                  subst e1
                  subst e3
                  refine ev_ild3 52 dX0_shortRules_51 rfl ?_
                  refine tj_bipush 54 dX0_shortRules_52 (by decide) rfl ?_
                  refine tj_icmp_ge 95 57 dX0_shortRules_54 (by decide) rfl (by first | exact TR.rng hT _ _ _ | exact R31_of _ | exact bi_R _ | (constructor <;> omega)) (by first | exact TR.rng hT _ _ _ | exact R31_of _ | exact bi_R _ | (constructor <;> omega)) (fun c54 => ?_) (fun c54 => ?_)
                  · skip
                    obtain rfl : c = 20 := by omega
                    have hcl2 : ClS m ft (X 23 0) (fun k => S.testBit k) 20 ∨ ((r + 1 : Nat) : Int) ≤ cnt (fun k => S.testBit k) m := by rcases hst with ⟨e, q⟩ | ⟨q1, q2⟩; exact Or.inl q; (rcases hcl with q3 | q3; exact absurd q3 q1; exact Or.inr (by omega))
                    refine tj_inc2 98 dX0_shortRules_95 rfl (by decide) rfl ?_
                    refine ev_goto 41 dX0_shortRules_98 (by decide) ?_
                    exact ih41 (r + 1) (S) _ _ _ (by omega) (by first | omega | assumption | first | exact hSW0 | exact hS00 | exact Or.inr (cnt_0 _ m).1 | exact hcl2) (by first | omega | assumption | first | exact hSW0 | exact hS00 | exact Or.inr (cnt_0 _ m).1 | exact hcl2) (by first | omega | assumption | first | exact hSW0 | exact hS00 | exact Or.inr (cnt_0 _ m).1 | exact hcl2) (by first | omega | assumption | first | exact hSW0 | exact hS00 | exact Or.inr (cnt_0 _ m).1 | exact hcl2) (by first | omega | assumption | first | exact hSW0 | exact hS00 | exact Or.inr (cnt_0 _ m).1 | exact hcl2) (by first | rfl | omega | (omega)) (by first | rfl | omega | (omega))
                  · skip
                    obtain ⟨b1, b2, b3⟩ := hA.2.2 c (by omega)
                    refine ev_ald0 58 dX0_shortRules_57 rfl ?_
                    refine ev_getfield 61 3 6 fl_X0_27_3 (tr17 hT) rfl dX0_shortRules_58 rfl ?_
                    refine ev_ild3 62 dX0_shortRules_61 rfl ?_
                    refine tv_iald 63 (tr23 hT) (c) (by omega) (by omega) (by omega) dX0_shortRules_62 rfl ?_
                    refine tj_iconst 64 dX0_shortRules_63 rfl ?_
                    refine tj_icmp_eq 89 67 dX0_shortRules_64 (by decide) rfl (by first | exact TR.rng hT _ _ _ | exact R31_of _ | exact bi_R _ | (constructor <;> omega)) (by first | exact TR.rng hT _ _ _ | exact R31_of _ | exact bi_R _ | (constructor <;> omega)) (fun c64 => ?_) (fun c64 => ?_)
                    · skip
                      obtain ⟨S9, hS9⟩ : ∃ S9 : Nat, (S : Int) = (S9 : Int) ∧ S9 < 16 ∧ (∃ F, CL m ft nd F (X 23 0) (X 22 0) ∧ (∀ c, c < 20 → X 23 0 c = -1 → ∀ k, k < m → ft c k = true → F k = true) ∧ SW m ft nd (X 23 0) F (fun k => S9.testBit k)) ∧ (∀ k, k < m → X 22 0 k < nd k → S9.testBit k = true) ∧ ((S9 = S1 ∧ ClS m ft (X 23 0) (fun k => S9.testBit k) (c + 1)) ∨ (¬ ClS m ft (X 23 0) (fun k => S1.testBit k) 20 ∧ cnt (fun k => S1.testBit k) m + 1 ≤ cnt (fun k => S9.testBit k) m)) := ⟨S, rfl, hS, hSW, hS0, by rcases hst with ⟨e, q⟩ | q; (exact Or.inl ⟨e, fun c9 h9 j hj ej => by by_cases z : c9 = c; (rw [z] at ej; omega); exact q c9 (by omega) j hj ej⟩); exact Or.inr q⟩
                      refine tj_inc3 92 dX0_shortRules_89 rfl (by decide) rfl ?_
                      refine ev_goto 51 dX0_shortRules_92 (by decide) ?_
                      exact ih51 (c + 1) (S9) _ _ (by omega) (by first | omega | assumption | first | exact Or.inl ⟨rfl, fun c9 h9 => absurd h9 (Nat.not_lt_zero c9)⟩ | exact hS9.2.1 | exact hS9.2.2.1 | exact hS9.2.2.2.1 | exact hS9.2.2.2.2) (by first | omega | assumption | first | exact Or.inl ⟨rfl, fun c9 h9 => absurd h9 (Nat.not_lt_zero c9)⟩ | exact hS9.2.1 | exact hS9.2.2.1 | exact hS9.2.2.2.1 | exact hS9.2.2.2.2) (by first | omega | assumption | first | exact Or.inl ⟨rfl, fun c9 h9 => absurd h9 (Nat.not_lt_zero c9)⟩ | exact hS9.2.1 | exact hS9.2.2.1 | exact hS9.2.2.2.1 | exact hS9.2.2.2.2) (by first | omega | assumption | first | exact Or.inl ⟨rfl, fun c9 h9 => absurd h9 (Nat.not_lt_zero c9)⟩ | exact hS9.2.1 | exact hS9.2.2.1 | exact hS9.2.2.2.1 | exact hS9.2.2.2.2) (by first | omega | assumption | first | exact Or.inl ⟨rfl, fun c9 h9 => absurd h9 (Nat.not_lt_zero c9)⟩ | exact hS9.2.1 | exact hS9.2.2.1 | exact hS9.2.2.2.1 | exact hS9.2.2.2.2) (by first | rfl | omega | (exact hS9.1)) (by first | rfl | omega | (exact hS9.1))
                    · skip
                      obtain ⟨j, hj, hGc, hfc⟩ := (g1 c (by omega)).resolve_left c64
                      have hand := and_0 (a := (X 20 0 c).toNat) (b := S) (by omega) hS
                      have hal : (X 20 0 c).toNat &&& S ≤ S := Nat.and_le_right
                      refine ev_ald0 68 dX0_shortRules_67 rfl ?_
                      refine ev_getfield 71 3 3 fl_X0_18_3 (tr17 hT) rfl dX0_shortRules_68 rfl ?_
                      refine ev_ild3 72 dX0_shortRules_71 rfl ?_
                      refine tv_iald 73 (tr20 hT) (c) (by omega) (by omega) (by omega) dX0_shortRules_72 rfl ?_
                      refine ev_ild1 74 dX0_shortRules_73 rfl ?_
                      refine tj_iand 75 dX0_shortRules_74 (X 20 0 c).toNat S (by omega) rfl rfl ?_
                      refine tj_if_eq 89 78 dX0_shortRules_75 (by decide) rfl (by first | exact TR.rng hT _ _ _ | exact R31_of _ | exact bi_R _ | (constructor <;> omega)) (fun c75 => ?_) (fun c75 => ?_)
                      · skip
                        have hno := hand.mp (by omega)
                        obtain ⟨S9, hS9⟩ : ∃ S9 : Nat, (S : Int) = (S9 : Int) ∧ S9 < 16 ∧ (∃ F, CL m ft nd F (X 23 0) (X 22 0) ∧ (∀ c, c < 20 → X 23 0 c = -1 → ∀ k, k < m → ft c k = true → F k = true) ∧ SW m ft nd (X 23 0) F (fun k => S9.testBit k)) ∧ (∀ k, k < m → X 22 0 k < nd k → S9.testBit k = true) ∧ ((S9 = S1 ∧ ClS m ft (X 23 0) (fun k => S9.testBit k) (c + 1)) ∨ (¬ ClS m ft (X 23 0) (fun k => S1.testBit k) 20 ∧ cnt (fun k => S1.testBit k) m + 1 ≤ cnt (fun k => S9.testBit k) m)) := ⟨S, rfl, hS, hSW, hS0, by rcases hst with ⟨e, q⟩ | q; (exact Or.inl ⟨e, fun c9 h9 j9 hj9 ej i hi hf qS => by by_cases z : c9 = c; (rw [z] at hf; exact absurd ⟨by rw [b3 i (by omega)]; show (decide (i < m) && ft c i) = true; rw [decide_eq_true hi, hf]; rfl, qS⟩ (hno i (by omega))); exact q c9 (by omega) j9 hj9 ej i hi hf qS⟩); exact Or.inr q⟩
                        refine tj_inc3 92 dX0_shortRules_89 rfl (by decide) rfl ?_
                        refine ev_goto 51 dX0_shortRules_92 (by decide) ?_
                        exact ih51 (c + 1) (S9) _ _ (by omega) (by first | omega | assumption | first | exact Or.inl ⟨rfl, fun c9 h9 => absurd h9 (Nat.not_lt_zero c9)⟩ | exact hS9.2.1 | exact hS9.2.2.1 | exact hS9.2.2.2.1 | exact hS9.2.2.2.2) (by first | omega | assumption | first | exact Or.inl ⟨rfl, fun c9 h9 => absurd h9 (Nat.not_lt_zero c9)⟩ | exact hS9.2.1 | exact hS9.2.2.1 | exact hS9.2.2.2.1 | exact hS9.2.2.2.2) (by first | omega | assumption | first | exact Or.inl ⟨rfl, fun c9 h9 => absurd h9 (Nat.not_lt_zero c9)⟩ | exact hS9.2.1 | exact hS9.2.2.1 | exact hS9.2.2.2.1 | exact hS9.2.2.2.2) (by first | omega | assumption | first | exact Or.inl ⟨rfl, fun c9 h9 => absurd h9 (Nat.not_lt_zero c9)⟩ | exact hS9.2.1 | exact hS9.2.2.1 | exact hS9.2.2.2.1 | exact hS9.2.2.2.2) (by first | omega | assumption | first | exact Or.inl ⟨rfl, fun c9 h9 => absurd h9 (Nat.not_lt_zero c9)⟩ | exact hS9.2.1 | exact hS9.2.2.1 | exact hS9.2.2.2.1 | exact hS9.2.2.2.2) (by first | rfl | omega | (exact hS9.1)) (by first | rfl | omega | (exact hS9.1))
                      · skip
                        obtain ⟨i, hi4, hbi, hSi⟩ : ∃ i, i < 4 ∧ (X 20 0 c).toNat.testBit i = true ∧ S.testBit i = true := Classical.byContradiction (fun q => c75 (by have := hand.mpr (fun k hk q2 => q ⟨k, hk, q2⟩); omega))
                        have hbi2 : (decide (i < m) && ft c i) = true := by rw [← hbi]; exact (b3 i hi4).symm
                        obtain ⟨hbi3, hfi⟩ := (Bool.and_eq_true _ _).mp hbi2
                        have him := of_decide_eq_true hbi3
                        have hor := or_1 hS (show j < 4 by omega)
                        obtain ⟨S9, hS9⟩ : ∃ S9 : Nat, ((S ||| 1 <<< j : Nat) : Int) = (S9 : Int) ∧ S9 < 16 ∧ (∃ F, CL m ft nd F (X 23 0) (X 22 0) ∧ (∀ c, c < 20 → X 23 0 c = -1 → ∀ k, k < m → ft c k = true → F k = true) ∧ SW m ft nd (X 23 0) F (fun k => S9.testBit k)) ∧ (∀ k, k < m → X 22 0 k < nd k → S9.testBit k = true) ∧ ((S9 = S1 ∧ ClS m ft (X 23 0) (fun k => S9.testBit k) (c + 1)) ∨ (¬ ClS m ft (X 23 0) (fun k => S1.testBit k) 20 ∧ cnt (fun k => S1.testBit k) m + 1 ≤ cnt (fun k => S9.testBit k) m)) := ⟨S ||| 1 <<< j, rfl, hor.1, by obtain ⟨F2, q1, q2, q3⟩ := hSW; exact ⟨F2, q1, q2, SW_cg (SW_add (S := fun k => S.testBit k) g1 q1 q3 (by omega) hj him hGc hfi hSi) (fun k hk => hor.2 k (by omega))⟩, fun k hk q => by rw [hor.2 k (by omega), hS0 k hk q]; rfl, sh_step hS hor.1 hor.2 hm (by omega) hj hGc him hfi hSi hst⟩
                        refine ev_ild1 79 dX0_shortRules_78 rfl ?_
                        refine tj_iconst 80 dX0_shortRules_79 rfl ?_
                        refine ev_ald0 81 dX0_shortRules_80 rfl ?_
                        refine ev_getfield 84 3 6 fl_X0_27_3 (tr17 hT) rfl dX0_shortRules_81 rfl ?_
                        refine ev_ild3 85 dX0_shortRules_84 rfl ?_
                        refine tv_iald 86 (tr23 hT) (c) (by omega) (by omega) (by omega) dX0_shortRules_85 rfl ?_
                        refine tj_ishl 87 dX0_shortRules_86 1 j rfl hGc (by omega) rfl ?_
                        refine tj_ior 88 dX0_shortRules_87 S (1 <<< j) rfl rfl rfl ?_
                        refine ev_ist1 89 dX0_shortRules_88 rfl (by decide) rfl ?_
                        refine tj_inc3 92 dX0_shortRules_89 rfl (by decide) rfl ?_
                        refine ev_goto 51 dX0_shortRules_92 (by decide) ?_
                        exact ih51 (c + 1) (S9) _ _ (by omega) (by first | omega | assumption | first | exact Or.inl ⟨rfl, fun c9 h9 => absurd h9 (Nat.not_lt_zero c9)⟩ | exact hS9.2.1 | exact hS9.2.2.1 | exact hS9.2.2.2.1 | exact hS9.2.2.2.2) (by first | omega | assumption | first | exact Or.inl ⟨rfl, fun c9 h9 => absurd h9 (Nat.not_lt_zero c9)⟩ | exact hS9.2.1 | exact hS9.2.2.1 | exact hS9.2.2.2.1 | exact hS9.2.2.2.2) (by first | omega | assumption | first | exact Or.inl ⟨rfl, fun c9 h9 => absurd h9 (Nat.not_lt_zero c9)⟩ | exact hS9.2.1 | exact hS9.2.2.1 | exact hS9.2.2.2.1 | exact hS9.2.2.2.2) (by first | omega | assumption | first | exact Or.inl ⟨rfl, fun c9 h9 => absurd h9 (Nat.not_lt_zero c9)⟩ | exact hS9.2.1 | exact hS9.2.2.1 | exact hS9.2.2.2.1 | exact hS9.2.2.2.2) (by first | omega | assumption | first | exact Or.inl ⟨rfl, fun c9 h9 => absurd h9 (Nat.not_lt_zero c9)⟩ | exact hS9.2.1 | exact hS9.2.2.1 | exact hS9.2.2.2.1 | exact hS9.2.2.2.2) (by first | rfl | omega | (exact hS9.1)) (by first | rfl | omega | (exact hS9.1))
              exact lp51 _ (0) (S1) _ _ (Nat.lt_succ_self _) (by first | omega | assumption | first | exact Or.inl ⟨rfl, fun c9 h9 => absurd h9 (Nat.not_lt_zero c9)⟩ | exact hS9.2.1 | exact hS9.2.2.1 | exact hS9.2.2.2.1 | exact hS9.2.2.2.2) (by first | omega | assumption | first | exact Or.inl ⟨rfl, fun c9 h9 => absurd h9 (Nat.not_lt_zero c9)⟩ | exact hS9.2.1 | exact hS9.2.2.1 | exact hS9.2.2.2.1 | exact hS9.2.2.2.2) (by first | omega | assumption | first | exact Or.inl ⟨rfl, fun c9 h9 => absurd h9 (Nat.not_lt_zero c9)⟩ | exact hS9.2.1 | exact hS9.2.2.1 | exact hS9.2.2.2.1 | exact hS9.2.2.2.2) (by first | omega | assumption | first | exact Or.inl ⟨rfl, fun c9 h9 => absurd h9 (Nat.not_lt_zero c9)⟩ | exact hS9.2.1 | exact hS9.2.2.1 | exact hS9.2.2.2.1 | exact hS9.2.2.2.2) (by first | omega | assumption | first | exact Or.inl ⟨rfl, fun c9 h9 => absurd h9 (Nat.not_lt_zero c9)⟩ | exact hS9.2.1 | exact hS9.2.2.1 | exact hS9.2.2.2.1 | exact hS9.2.2.2.2) (by first | rfl | omega | (exact hS9.1)) (by first | rfl | omega | (exact hS9.1))
        exact lp41 _ (0) (S) _ _ _ (Nat.lt_succ_self _) (by first | omega | assumption | first | exact hSW0 | exact hS00 | exact Or.inr (cnt_0 _ m).1 | exact hcl2) (by first | omega | assumption | first | exact hSW0 | exact hS00 | exact Or.inr (cnt_0 _ m).1 | exact hcl2) (by first | omega | assumption | first | exact hSW0 | exact hS00 | exact Or.inr (cnt_0 _ m).1 | exact hcl2) (by first | omega | assumption | first | exact hSW0 | exact hS00 | exact Or.inr (cnt_0 _ m).1 | exact hcl2) (by first | omega | assumption | first | exact hSW0 | exact hS00 | exact Or.inr (cnt_0 _ m).1 | exact hcl2) (by first | rfl | omega | (omega)) (by first | rfl | omega | (omega))
      · skip
        have a19 := (hA.2.1 k (by omega)).2
        have hor := or_1 hS (show k < 4 by omega)
        refine ev_ald0 13 dX0_shortRules_12 rfl ?_
        refine ev_getfield 16 3 5 fl_X0_24_3 (tr17 hT) rfl dX0_shortRules_13 rfl ?_
        refine ev_ild2 17 dX0_shortRules_16 rfl ?_
        refine tv_iald 18 (tr22 hT) (k) (by omega) (by omega) (by omega) dX0_shortRules_17 rfl ?_
        refine ev_ald0 19 dX0_shortRules_18 rfl ?_
        refine ev_getfield 22 3 2 fl_X0_15_3 (tr17 hT) rfl dX0_shortRules_19 rfl ?_
        refine ev_ild2 23 dX0_shortRules_22 rfl ?_
        refine tv_iald 24 (tr19 hT) (k) (by omega) (by omega) (by omega) dX0_shortRules_23 rfl ?_
        refine tj_icmp_ge 33 27 dX0_shortRules_24 (by decide) rfl (by first | exact TR.rng hT _ _ _ | exact R31_of _ | exact bi_R _ | (constructor <;> omega)) (by first | exact TR.rng hT _ _ _ | exact R31_of _ | exact bi_R _ | (constructor <;> omega)) (fun c24 => ?_) (fun c24 => ?_)
        · skip
          obtain ⟨S9, hS9⟩ : ∃ S9 : Nat, (S : Int) = (S9 : Int) ∧ S9 < 16 ∧ ∀ j, j < 4 → S9.testBit j = (decide (j < k + 1) && decide (X 22 0 j < nd j)) := ⟨S, rfl, hS, fun j hj => by rw [hb j hj]; by_cases e : j = k; (rw [e, decide_eq_false (Nat.lt_irrefl k), decide_eq_false (show ¬ X 22 0 k < nd k by omega)]; simp); (by_cases e2 : j < k; (rw [decide_eq_true e2, decide_eq_true (show j < k + 1 by omega)]); (rw [decide_eq_false e2, decide_eq_false (show ¬ j < k + 1 by omega)]))⟩
          refine tj_inc2 36 dX0_shortRules_33 rfl (by decide) rfl ?_
          refine ev_goto 4 dX0_shortRules_36 (by decide) ?_
          exact ih4 (k + 1) (S9) _ _ _ (by omega) (by first | omega | assumption | first | decide | exact hS9.2.1 | exact hS9.2.2 | (intro j hj; simp)) (by first | omega | assumption | first | decide | exact hS9.2.1 | exact hS9.2.2 | (intro j hj; simp)) (by first | omega | assumption | first | decide | exact hS9.2.1 | exact hS9.2.2 | (intro j hj; simp)) (by first | rfl | omega | (exact hS9.1)) (by first | rfl | omega | (exact hS9.1))
        · skip
          obtain ⟨S9, hS9⟩ : ∃ S9 : Nat, ((S ||| 1 <<< k : Nat) : Int) = (S9 : Int) ∧ S9 < 16 ∧ ∀ j, j < 4 → S9.testBit j = (decide (j < k + 1) && decide (X 22 0 j < nd j)) := ⟨S ||| 1 <<< k, rfl, hor.1, fun j hj => by rw [hor.2 j hj, hb j hj]; by_cases e : j = k; (rw [e, decide_eq_true rfl, decide_eq_true (Nat.lt_succ_self k), decide_eq_true (show X 22 0 k < nd k by omega)]; simp); (rw [decide_eq_false e, Bool.or_false]; by_cases e2 : j < k; (rw [decide_eq_true e2, decide_eq_true (show j < k + 1 by omega)]); (rw [decide_eq_false e2, decide_eq_false (show ¬ j < k + 1 by omega)]))⟩
          refine ev_ild1 28 dX0_shortRules_27 rfl ?_
          refine tj_iconst 29 dX0_shortRules_28 rfl ?_
          refine ev_ild2 30 dX0_shortRules_29 rfl ?_
          refine tj_ishl 31 dX0_shortRules_30 1 k rfl rfl (by omega) rfl ?_
          refine tj_ior 32 dX0_shortRules_31 S (1 <<< k) rfl rfl rfl ?_
          refine ev_ist1 33 dX0_shortRules_32 rfl (by decide) rfl ?_
          refine tj_inc2 36 dX0_shortRules_33 rfl (by decide) rfl ?_
          refine ev_goto 4 dX0_shortRules_36 (by decide) ?_
          exact ih4 (k + 1) (S9) _ _ _ (by omega) (by first | omega | assumption | first | decide | exact hS9.2.1 | exact hS9.2.2 | (intro j hj; simp)) (by first | omega | assumption | first | decide | exact hS9.2.1 | exact hS9.2.2 | (intro j hj; simp)) (by first | omega | assumption | first | decide | exact hS9.2.1 | exact hS9.2.2 | (intro j hj; simp)) (by first | rfl | omega | (exact hS9.1)) (by first | rfl | omega | (exact hS9.1))
  exact lp4 _ (0) (0) _ _ _ (Nat.lt_succ_self _) (by first | omega | assumption | first | decide | exact hS9.2.1 | exact hS9.2.2 | (intro j hj; simp)) (by first | omega | assumption | first | decide | exact hS9.2.1 | exact hS9.2.2 | (intro j hj; simp)) (by first | omega | assumption | first | decide | exact hS9.2.1 | exact hS9.2.2 | (intro j hj; simp)) (by first | rfl | omega | (exact hS9.1)) (by first | rfl | omega | (exact hS9.1))
