/-! THE CLASS: lists that are emptied, days that pass -/
/-- list i emptied, of its array the first n places -/
def em (X : XM) (i n : Nat) : XM := fun kk ii =>
  if kk = 1 ∧ ii = i then (fun j => if j = 0 then wr (X 1 i 0 + 1) else if j = 2 then 0 else X 1 i j)
  else if kk = 2 ∧ ii = i then (fun j => if 1 ≤ j ∧ j ≤ n then -1 else X 2 i j)
  else X kk ii
theorem em_k {X : XM} {i n kk : Nat} (h1 : kk ≠ 1) (h2 : kk ≠ 2) : em X i n kk = X kk := funext fun ii => by
  unfold em
  rw [if_neg (fun z => h1 z.1), if_neg (fun z => h2 z.1)]
theorem em_ne {X : XM} {i n kk ii : Nat} (h : ii ≠ i) : em X i n kk ii = X kk ii := by
  unfold em
  rw [if_neg (fun z => h z.2), if_neg (fun z => h z.2)]
theorem em_1 (X : XM) (i n j : Nat) : em X i n 1 i j = if j = 0 then wr (X 1 i 0 + 1) else if j = 2 then 0 else X 1 i j := by
  unfold em
  rw [if_pos ⟨rfl, rfl⟩]
theorem em_2 (X : XM) (i n j : Nat) : em X i n 2 i j = if 1 ≤ j ∧ j ≤ n then -1 else X 2 i j := by
  unfold em
  rw [if_neg (by omega), if_pos ⟨rfl, rfl⟩]
theorem em_0 (X : XM) (i : Nat) : xs (xs X 1 i 0 (wr (X 1 i 0 + 1))) 1 i 2 0 = em X i 0 := by
  funext kk ii j
  rw [xs_all, xs_all]
  by_cases e : kk = 1 ∧ ii = i
  · obtain ⟨rfl, rfl⟩ := e
    rw [em_1]
    by_cases h2 : j = 2
    · subst h2; simp
    · by_cases h0 : j = 0
      · subst h0; simp
      · simp [h2, h0]
  · rw [if_neg (by omega), if_neg (by omega)]
    by_cases e2 : kk = 2 ∧ ii = i
    · obtain ⟨rfl, rfl⟩ := e2
      rw [em_2, if_neg (by omega)]
    · unfold em
      rw [if_neg e, if_neg e2]
theorem em_s (X : XM) (i n : Nat) : xs (em X i n) 2 i (n + 1) (-1) = em X i (n + 1) := by
  funext kk ii j
  rw [xs_all]
  by_cases e2 : kk = 2 ∧ ii = i
  · obtain ⟨rfl, rfl⟩ := e2
    rw [em_2, em_2]
    by_cases q : j = n + 1
    · subst q; simp
    · rw [if_neg (by omega)]
      by_cases q2 : 1 ≤ j ∧ j ≤ n
      · rw [if_pos q2, if_pos (by omega)]
      · rw [if_neg q2, if_neg (by omega)]
  · rw [if_neg (by omega)]
    unfold em
    by_cases e : kk = 1 ∧ ii = i
    · rw [if_pos e, if_pos e]
    · rw [if_neg e, if_neg e, if_neg e2, if_neg e2]
theorem em_x (X : XM) (i n j : Nat) (v : Int) : em (xs X 0 0 j v) i n = xs (em X i n) 0 0 j v := by
  funext kk ii q
  rw [xs_all]
  by_cases e : kk = 1 ∧ ii = i
  · obtain ⟨rfl, rfl⟩ := e
    rw [em_1, em_1, if_neg (show ¬ (1 = 0 ∧ ii = 0 ∧ q = j) by omega), xs_nk (by decide)]
  · by_cases e2 : kk = 2 ∧ ii = i
    · obtain ⟨rfl, rfl⟩ := e2
      rw [em_2, em_2, if_neg (show ¬ (2 = 0 ∧ ii = 0 ∧ q = j) by omega), xs_nk (by decide)]
    · unfold em
      rw [if_neg e, if_neg e, if_neg e2, if_neg e2, xs_all]
set_option maxRecDepth 100000 in
set_option maxHeartbeats 4000000 in
theorem c_clr_e {g : Gt} {α : AL} {ν : Nat → Nat → Bool} {X : XM} {h : AH} (hT : TR g α ν X h) {i : Nat} (hL : LW ν X i) (h6 : X 1 i 2 ≤ 1000) (he : X 1 i 1 = 0) : Mu g α ν M_Jx4a65c_clear_da8c8 0 [.ref (α 1 i)] h (none) (fun X' => X' = em X i (X 1 i 2).toNat) := by
  refine mu_of rfl rfl (ls := [some (.ref (α 1 i)), none, none, none]) rfl (Nat.le_of_ble_eq_true rfl) ?_
  show Ev g M_Jx4a65c_clear_da8c8 0 0 [some (.ref (α 1 i)), none, none, none] [] h 0 0 (UQ g α ν (none) (fun X' => X' = em X i (X 1 i 2).toNat))
  have hn := hL.2.2.2.1
  have hy := hL.2.2.2.2
  have hz0 := hL.2.2.1 he
  refine ev_ald0 1 dJx4a65c_clear_da8c8_0 rfl ?_
  refine ev_dup 2 dJx4a65c_clear_da8c8_1 rfl rfl ?_
  refine ev_getfieldS 5 2 0 fls_Jx4a65c_63_2 (lw_cell0 hT hL he) rfl dJx4a65c_clear_da8c8_2 rfl ?_
  refine tj_iconst 6 dJx4a65c_clear_da8c8_5 rfl ?_
  refine tj_iadd 7 dJx4a65c_clear_da8c8_6 rfl ?_
  rw [J_wr (X 1 i 0 + 1)]
  refine tv_putiS 10 0 .int fls_Jx4a65c_63_2 fp_2_0 hT (hL.1) (fun _ => rfl) rfl (Nat.le_of_ble_eq_true rfl) rfl rfl (by first | exact TR.rng hT _ _ _ | exact R31_of _ | exact bi_R _ | (constructor <;> omega)) dJx4a65c_clear_da8c8_7 rfl (fun h hT => ?_)
  obtain ⟨X1, hX1⟩ : ∃ Z, Z = xs X 1 i 0 (wr (X 1 i 0 + 1)) := ⟨_, rfl⟩
  rw [← hX1] at hT
  have f1 : X1 1 i 1 = X 1 i 1 := by rw [hX1, xs_at]; rfl
  have f2 : X1 1 i 2 = X 1 i 2 := by rw [hX1, xs_at]; rfl
  have f3 : X1 2 = X 2 := by rw [hX1]; exact xs_nk (by decide)
  have hL0 := hL
  have hL := lw_cg hL f1 f2 (by rw [f3])
  have he1 := he
  rw [← f1] at he
  refine ev_ald0 11 dJx4a65c_clear_da8c8_10 rfl ?_
  refine ev_getfield 14 2 1 fl_Jx4a65c_9_2 (lw_cell0 hT hL he) rfl dJx4a65c_clear_da8c8_11 rfl ?_
  refine ev_ast1 15 dJx4a65c_clear_da8c8_14 rfl (by decide) rfl ?_
  refine ev_ald0 16 dJx4a65c_clear_da8c8_15 rfl ?_
  refine ev_getfield 19 2 2 fl_Jx4a65c_48_2 (lw_cell0 hT hL he) rfl dJx4a65c_clear_da8c8_16 rfl ?_
  refine ev_ist2 20 dJx4a65c_clear_da8c8_19 rfl (by decide) rfl ?_
  refine ev_ald0 21 dJx4a65c_clear_da8c8_20 rfl ?_
  refine tj_iconst 22 dJx4a65c_clear_da8c8_21 rfl ?_
  refine ev_dup_x1 23 dJx4a65c_clear_da8c8_22 rfl rfl rfl ?_
  refine tv_puti 26 2 .int fl_Jx4a65c_48_2 fp_2_2 hT (hL.1) (fun _ => rfl) rfl (Nat.le_of_ble_eq_true rfl) rfl rfl (by first | exact TR.rng hT _ _ _ | exact R31_of _ | exact bi_R _ | (constructor <;> omega)) dJx4a65c_clear_da8c8_23 rfl (fun h hT => ?_)
  have hT9 := hT
  rw [hX1, em_0] at hT
  refine ev_ist3 27 dJx4a65c_clear_da8c8_26 rfl (by decide) rfl ?_
  have lp27 : ∀ (n27 : Nat) (j : Nat) (z3 : Int)  (h : AH) (X2 : XM), 1001 - j < n27 → ((j : Int) ≤ X 1 i 2) → z3 = (j : Int) → TR g α ν X2 h → X2 = em X i j → Ev g M_Jx4a65c_clear_da8c8 0 27 [some (.ref (α 1 i)), some (.ref (gE g)), some (.int (J (X1 1 i 2))), some (.int (J z3))] [] h 0 0 (UQ g α ν (none) (fun X' => X' = em X i (X 1 i 2).toNat)) := by
    intro n27
    induction n27 with
    | zero => intro j z3 h X2 hm; exact absurd hm (Nat.not_lt_zero _)
    | succ n27 ih27 =>
      intro j z3 h X2 hm27 hj e3 hT hI
      subst e3
      have g4 : X2 2 i 0 = X 2 i 0 := by rw [hI, em_2, if_neg (by omega)]
      refine ev_ild3 28 dJx4a65c_clear_da8c8_27 rfl ?_
      refine ev_ild2 29 dJx4a65c_clear_da8c8_28 rfl ?_
      refine tj_icmp_ge 42 32 dJx4a65c_clear_da8c8_29 (by decide) rfl (by first | exact TR.rng hT _ _ _ | exact R31_of _ | exact bi_R _ | (constructor <;> omega)) (by first | exact TR.rng hT _ _ _ | exact R31_of _ | exact bi_R _ | (constructor <;> omega)) (fun c29 => ?_) (fun c29 => ?_)
      · skip
        exact ev_vreturn (uq_v hT (by show X2 = _; rw [hI, show (X 1 i 2).toNat = j by omega])) rfl dJx4a65c_clear_da8c8_42
      · exact False.elim (by rw [f2] at c29; omega)
  exact lp27 _ (0) _ _ _ (Nat.lt_succ_self _) (by first | omega | assumption | omega) (by first | rfl | omega | (omega)) hT (by first | assumption | (first | rfl | (rw [hI]; exact em_s X i j)))
set_option maxRecDepth 100000 in
set_option maxHeartbeats 4000000 in
theorem c_clr_n {g : Gt} {α : AL} {ν : Nat → Nat → Bool} {X : XM} {h : AH} (hT : TR g α ν X h) {i : Nat} (hL : LW ν X i) (h6 : X 1 i 2 ≤ 1000) (he : X 1 i 1 ≠ 0) : Mu g α ν M_Jx4a65c_clear_da8c8 0 [.ref (α 1 i)] h (none) (fun X' => X' = em X i (X 1 i 2).toNat) := by
  refine mu_of rfl rfl (ls := [some (.ref (α 1 i)), none, none, none]) rfl (Nat.le_of_ble_eq_true rfl) ?_
  show Ev g M_Jx4a65c_clear_da8c8 0 0 [some (.ref (α 1 i)), none, none, none] [] h 0 0 (UQ g α ν (none) (fun X' => X' = em X i (X 1 i 2).toNat))
  have hn := hL.2.2.2.1
  have hy := hL.2.2.2.2
  have hz := hL.2.1 he
  refine ev_ald0 1 dJx4a65c_clear_da8c8_0 rfl ?_
  refine ev_dup 2 dJx4a65c_clear_da8c8_1 rfl rfl ?_
  refine ev_getfieldS 5 2 0 fls_Jx4a65c_63_2 (lw_cellE hT hL he) rfl dJx4a65c_clear_da8c8_2 rfl ?_
  refine tj_iconst 6 dJx4a65c_clear_da8c8_5 rfl ?_
  refine tj_iadd 7 dJx4a65c_clear_da8c8_6 rfl ?_
  rw [J_wr (X 1 i 0 + 1)]
  refine tv_putiS 10 0 .int fls_Jx4a65c_63_2 fp_2_0 hT (hL.1) (fun _ => rfl) rfl (Nat.le_of_ble_eq_true rfl) rfl rfl (by first | exact TR.rng hT _ _ _ | exact R31_of _ | exact bi_R _ | (constructor <;> omega)) dJx4a65c_clear_da8c8_7 rfl (fun h hT => ?_)
  obtain ⟨X1, hX1⟩ : ∃ Z, Z = xs X 1 i 0 (wr (X 1 i 0 + 1)) := ⟨_, rfl⟩
  rw [← hX1] at hT
  have f1 : X1 1 i 1 = X 1 i 1 := by rw [hX1, xs_at]; rfl
  have f2 : X1 1 i 2 = X 1 i 2 := by rw [hX1, xs_at]; rfl
  have f3 : X1 2 = X 2 := by rw [hX1]; exact xs_nk (by decide)
  have hL0 := hL
  have hL := lw_cg hL f1 f2 (by rw [f3])
  have he1 := he
  rw [← f1] at he
  refine ev_ald0 11 dJx4a65c_clear_da8c8_10 rfl ?_
  refine ev_getfield 14 2 1 fl_Jx4a65c_9_2 (lw_cellE hT hL he) rfl dJx4a65c_clear_da8c8_11 rfl ?_
  refine ev_ast1 15 dJx4a65c_clear_da8c8_14 rfl (by decide) rfl ?_
  refine ev_ald0 16 dJx4a65c_clear_da8c8_15 rfl ?_
  refine ev_getfield 19 2 2 fl_Jx4a65c_48_2 (lw_cellE hT hL he) rfl dJx4a65c_clear_da8c8_16 rfl ?_
  refine ev_ist2 20 dJx4a65c_clear_da8c8_19 rfl (by decide) rfl ?_
  refine ev_ald0 21 dJx4a65c_clear_da8c8_20 rfl ?_
  refine tj_iconst 22 dJx4a65c_clear_da8c8_21 rfl ?_
  refine ev_dup_x1 23 dJx4a65c_clear_da8c8_22 rfl rfl rfl ?_
  refine tv_puti 26 2 .int fl_Jx4a65c_48_2 fp_2_2 hT (hL.1) (fun _ => rfl) rfl (Nat.le_of_ble_eq_true rfl) rfl rfl (by first | exact TR.rng hT _ _ _ | exact R31_of _ | exact bi_R _ | (constructor <;> omega)) dJx4a65c_clear_da8c8_23 rfl (fun h hT => ?_)
  have hT9 := hT
  rw [hX1, em_0] at hT
  refine ev_ist3 27 dJx4a65c_clear_da8c8_26 rfl (by decide) rfl ?_
  have lp27 : ∀ (n27 : Nat) (j : Nat) (z3 : Int)  (h : AH) (X2 : XM), 1001 - j < n27 → ((j : Int) ≤ X 1 i 2) → z3 = (j : Int) → TR g α ν X2 h → X2 = em X i j → Ev g M_Jx4a65c_clear_da8c8 0 27 [some (.ref (α 1 i)), some (.ref (α 2 i)), some (.int (J (X1 1 i 2))), some (.int (J z3))] [] h 0 0 (UQ g α ν (none) (fun X' => X' = em X i (X 1 i 2).toNat)) := by
    intro n27
    induction n27 with
    | zero => intro j z3 h X2 hm; exact absurd hm (Nat.not_lt_zero _)
    | succ n27 ih27 =>
      intro j z3 h X2 hm27 hj e3 hT hI
      subst e3
      have g4 : X2 2 i 0 = X 2 i 0 := by rw [hI, em_2, if_neg (by omega)]
      refine ev_ild3 28 dJx4a65c_clear_da8c8_27 rfl ?_
      refine ev_ild2 29 dJx4a65c_clear_da8c8_28 rfl ?_
      refine tj_icmp_ge 42 32 dJx4a65c_clear_da8c8_29 (by decide) rfl (by first | exact TR.rng hT _ _ _ | exact R31_of _ | exact bi_R _ | (constructor <;> omega)) (by first | exact TR.rng hT _ _ _ | exact R31_of _ | exact bi_R _ | (constructor <;> omega)) (fun c29 => ?_) (fun c29 => ?_)
      · skip
        exact ev_vreturn (uq_v hT (by show X2 = _; rw [hI, show (X 1 i 2).toNat = j by omega])) rfl dJx4a65c_clear_da8c8_42
      · skip
        refine ev_ald1 33 dJx4a65c_clear_da8c8_32 rfl ?_
        refine ev_ild3 34 dJx4a65c_clear_da8c8_33 rfl ?_
        refine ev_null 35 dJx4a65c_clear_da8c8_34 rfl ?_
        refine tv_aastN 36 hT (tv2 hT hz.1) (j) (by omega) (by omega) (by omega) dJx4a65c_clear_da8c8_35 rfl (fun h hT => ?_)
        refine tj_inc3 39 dJx4a65c_clear_da8c8_36 rfl (by decide) rfl ?_
        refine ev_goto 27 dJx4a65c_clear_da8c8_39 (by decide) ?_
        exact ih27 (j + 1) _ _ _ (by omega) (by first | omega | assumption | omega) (by first | rfl | omega | (omega)) hT (by first | assumption | (first | rfl | (rw [hI]; exact em_s X i j)))
  exact lp27 _ (0) _ _ _ (Nat.lt_succ_self _) (by first | omega | assumption | omega) (by first | rfl | omega | (omega)) hT (by first | assumption | (first | rfl | (rw [hI]; exact em_s X i j)))
theorem clr_c {g : Gt} {α : AL} {ν : Nat → Nat → Bool} {X : XM} {h : AH} (hT : TR g α ν X h) {i : Nat} (hL : LW ν X i) (h6 : X 1 i 2 ≤ 1000) : Mu g α ν M_Jx4a65c_clear_da8c8 0 [.ref (α 1 i)] h none (fun X' => X' = em X i (X 1 i 2).toNat) := by
  by_cases he : X 1 i 1 = 0
  · exact c_clr_e hT hL h6 he
  · exact c_clr_n hT hL h6 he
theorem em_n (X : XM) (c n c' : Nat) : em X (4 + c) n 1 (4 + c') 2 = if c' = c then 0 else X 1 (4 + c') 2 := by
  by_cases e : c' = c
  · subst e; rw [em_1]; simp
  · rw [em_ne (by omega), if_neg e]
set_option maxHeartbeats 2000000 in
theorem wo_em {X : XM} (h : WO X) (c n : Nat) : WO (em X (4 + c) n) := by
  have k0 : (em X (4 + c) n) 0 = X 0 := em_k (by decide) (by decide)
  have k3 : (em X (4 + c) n) 3 = X 3 := em_k (by decide) (by decide)
  have k4 : (em X (4 + c) n) 4 = X 4 := em_k (by decide) (by decide)
  have k5 : (em X (4 + c) n) 5 = X 5 := em_k (by decide) (by decide)
  have k6 : (em X (4 + c) n) 6 = X 6 := em_k (by decide) (by decide)
  have k7 : (em X (4 + c) n) 7 = X 7 := em_k (by decide) (by decide)
  have k8 : (em X (4 + c) n) 8 = X 8 := em_k (by decide) (by decide)
  have k9 : (em X (4 + c) n) 9 = X 9 := em_k (by decide) (by decide)
  have k11 : (em X (4 + c) n) 11 = X 11 := em_k (by decide) (by decide)
  have k12 : (em X (4 + c) n) 12 = X 12 := em_k (by decide) (by decide)
  have k13 : (em X (4 + c) n) 13 = X 13 := em_k (by decide) (by decide)
  have k14 : (em X (4 + c) n) 14 = X 14 := em_k (by decide) (by decide)
  have k15 : (em X (4 + c) n) 15 = X 15 := em_k (by decide) (by decide)
  have k16 : (em X (4 + c) n) 16 = X 16 := em_k (by decide) (by decide)
  have l0 : (em X (4 + c) n) 1 0 2 = X 1 0 2 := by rw [em_ne (by omega)]
  have l1 : (em X (4 + c) n) 1 1 2 = X 1 1 2 := by rw [em_ne (by omega)]
  have l2 : (em X (4 + c) n) 1 2 2 = X 1 2 2 := by rw [em_ne (by omega)]
  have l3 : (em X (4 + c) n) 1 3 2 = X 1 3 2 := by rw [em_ne (by omega)]
  have kb : bsT (em X (4 + c) n) = bsT X := bsT_cg k6 k11
  refine ⟨?_, ?_, ?_, ?_, ?_, ?_, ?_, ?_, ?_, ?_, ?_, ?_, ?_, ?_, ?_, ?_, ?_, ?_, ?_, ?_, ?_, ?_, ?_, ?_, ?_, ?_, ?_, ?_, ?_, ?_, ?_, ?_, ?_, ?_, ?_, ?_, ?_, trivial⟩
  · -- nC
    simp only [nC, nS, nF, nR, k0, k3, k4, k5, k6, k7, k8, k9, k11, k12, k13, k14, k15, k16, l0, l1, l2, l3, kb]; exact wo_nC h
  · -- nS
    simp only [nC, nS, nF, nR, k0, k3, k4, k5, k6, k7, k8, k9, k11, k12, k13, k14, k15, k16, l0, l1, l2, l3, kb]; exact wo_nS h
  · -- nF
    simp only [nC, nS, nF, nR, k0, k3, k4, k5, k6, k7, k8, k9, k11, k12, k13, k14, k15, k16, l0, l1, l2, l3, kb]; exact wo_nF h
  · -- nR
    simp only [nC, nS, nF, nR, k0, k3, k4, k5, k6, k7, k8, k9, k11, k12, k13, k14, k15, k16, l0, l1, l2, l3, kb]; exact wo_nR h
  · -- day
    simp only [nC, nS, nF, nR, k0, k3, k4, k5, k6, k7, k8, k9, k11, k12, k13, k14, k15, k16, l0, l1, l2, l3, kb]; exact wo_day h
  · -- term
    simp only [nC, nS, nF, nR, k0, k3, k4, k5, k6, k7, k8, k9, k11, k12, k13, k14, k15, k16, l0, l1, l2, l3, kb]; exact wo_term h
  · -- crd
    simp only [nC, nS, nF, nR, k0, k3, k4, k5, k6, k7, k8, k9, k11, k12, k13, k14, k15, k16, l0, l1, l2, l3, kb]; exact wo_crd h
  · -- sea
    simp only [nC, nS, nF, nR, k0, k3, k4, k5, k6, k7, k8, k9, k11, k12, k13, k14, k15, k16, l0, l1, l2, l3, kb]; exact wo_sea h
  · -- req
    simp only [nC, nS, nF, nR, k0, k3, k4, k5, k6, k7, k8, k9, k11, k12, k13, k14, k15, k16, l0, l1, l2, l3, kb]; exact wo_req h
  · -- res
    simp only [nC, nS, nF, nR, k0, k3, k4, k5, k6, k7, k8, k9, k11, k12, k13, k14, k15, k16, l0, l1, l2, l3, kb]; exact wo_res h
  · -- wN
    intro c2 h2; simp only [nC, l0] at h2; rw [em_n]; split; (omega); (exact wo_wN h c2 h2)
  · -- wA
    intro c2 j h2 hj; simp only [nC, nS, l0, l1] at *; rw [em_n] at hj; by_cases e : c2 = c; (rw [if_pos e] at hj; omega); (rw [if_neg e] at hj; rw [em_ne (by omega)]; exact wo_wA h c2 j h2 hj)
  · -- maj
    simp only [nC, nS, nF, nR, k0, k3, k4, k5, k6, k7, k8, k9, k11, k12, k13, k14, k15, k16, l0, l1, l2, l3, kb]; exact wo_maj h
  · -- t01
    simp only [nC, nS, nF, nR, k0, k3, k4, k5, k6, k7, k8, k9, k11, k12, k13, k14, k15, k16, l0, l1, l2, l3, kb]; exact wo_t01 h
  · -- m01
    simp only [nC, nS, nF, nR, k0, k3, k4, k5, k6, k7, k8, k9, k11, k12, k13, k14, k15, k16, l0, l1, l2, l3, kb]; exact wo_m01 h
  · -- tm
    simp only [nC, nS, nF, nR, k0, k3, k4, k5, k6, k7, k8, k9, k11, k12, k13, k14, k15, k16, l0, l1, l2, l3, kb]; exact wo_tm h
  · -- bst
    simp only [nC, nS, nF, nR, k0, k3, k4, k5, k6, k7, k8, k9, k11, k12, k13, k14, k15, k16, l0, l1, l2, l3, kb]; exact wo_bst h
  · -- tri
    simp only [nC, nS, nF, nR, k0, k3, k4, k5, k6, k7, k8, k9, k11, k12, k13, k14, k15, k16, l0, l1, l2, l3, kb]; exact wo_tri h
  · -- trd
    simp only [nC, nS, nF, nR, k0, k3, k4, k5, k6, k7, k8, k9, k11, k12, k13, k14, k15, k16, l0, l1, l2, l3, kb]; exact wo_trd h
  · -- bsq
    simp only [nC, nS, nF, nR, k0, k3, k4, k5, k6, k7, k8, k9, k11, k12, k13, k14, k15, k16, l0, l1, l2, l3, kb]; exact wo_bsq h
  · -- far
    simp only [nC, nS, nF, nR, k0, k3, k4, k5, k6, k7, k8, k9, k11, k12, k13, k14, k15, k16, l0, l1, l2, l3, kb]; exact wo_far h
  · -- dep
    simp only [nC, nS, nF, nR, k0, k3, k4, k5, k6, k7, k8, k9, k11, k12, k13, k14, k15, k16, l0, l1, l2, l3, kb]; exact wo_dep h
  · -- dp0
    simp only [nC, nS, nF, nR, k0, k3, k4, k5, k6, k7, k8, k9, k11, k12, k13, k14, k15, k16, l0, l1, l2, l3, kb]; exact wo_dp0 h
  · -- fk
    simp only [nC, nS, nF, nR, k0, k3, k4, k5, k6, k7, k8, k9, k11, k12, k13, k14, k15, k16, l0, l1, l2, l3, kb]; exact wo_fk h
  · -- f0
    simp only [nC, nS, nF, nR, k0, k3, k4, k5, k6, k7, k8, k9, k11, k12, k13, k14, k15, k16, l0, l1, l2, l3, kb]; exact wo_f0 h
  · -- f1
    simp only [nC, nS, nF, nR, k0, k3, k4, k5, k6, k7, k8, k9, k11, k12, k13, k14, k15, k16, l0, l1, l2, l3, kb]; exact wo_f1 h
  · -- f2
    simp only [nC, nS, nF, nR, k0, k3, k4, k5, k6, k7, k8, k9, k11, k12, k13, k14, k15, k16, l0, l1, l2, l3, kb]; exact wo_f2 h
  · -- f3
    simp only [nC, nS, nF, nR, k0, k3, k4, k5, k6, k7, k8, k9, k11, k12, k13, k14, k15, k16, l0, l1, l2, l3, kb]; exact wo_f3 h
  · -- f4
    simp only [nC, nS, nF, nR, k0, k3, k4, k5, k6, k7, k8, k9, k11, k12, k13, k14, k15, k16, l0, l1, l2, l3, kb]; exact wo_f4 h
  · -- rul
    simp only [nC, nS, nF, nR, k0, k3, k4, k5, k6, k7, k8, k9, k11, k12, k13, k14, k15, k16, l0, l1, l2, l3, kb]; exact wo_rul h
  · -- r01
    simp only [nC, nS, nF, nR, k0, k3, k4, k5, k6, k7, k8, k9, k11, k12, k13, k14, k15, k16, l0, l1, l2, l3, kb]; exact wo_r01 h
  · -- rm4
    simp only [nC, nS, nF, nR, k0, k3, k4, k5, k6, k7, k8, k9, k11, k12, k13, k14, k15, k16, l0, l1, l2, l3, kb]; exact wo_rm4 h
  · -- tk3
    simp only [nC, nS, nF, nR, k0, k3, k4, k5, k6, k7, k8, k9, k11, k12, k13, k14, k15, k16, l0, l1, l2, l3, kb]; exact wo_tk3 h
  · -- w6
    intro c2 h2 hd; simp only [nC, l0] at h2; rw [k0] at hd; rw [em_n]; split; (rfl); (exact wo_w6 h c2 h2 hd)
  · -- wt3
    intro c2 j h2 hj; simp only [nC, l0] at h2; rw [em_n] at hj; by_cases e : c2 = c; (rw [if_pos e] at hj; omega); (rw [if_neg e] at hj; rw [k9, em_ne (by omega)]; exact wo_wt3 h c2 j h2 hj)
  · -- deg
    simp only [nC, nS, nF, nR, k0, k3, k4, k5, k6, k7, k8, k9, k11, k12, k13, k14, k15, k16, l0, l1, l2, l3, kb]; exact wo_deg h
  · -- f7
    simp only [nC, nS, nF, nR, k0, k3, k4, k5, k6, k7, k8, k9, k11, k12, k13, k14, k15, k16, l0, l1, l2, l3, kb]; exact wo_f7 h
theorem wv_em {ν : Nat → Nat → Bool} {X : XM} (h : WV ν X) (hO : WO X) (c n : Nat) : WV ν (em X (4 + c) n) := by
  have l0 : em X (4 + c) n 1 0 = X 1 0 := em_ne (by omega)
  have l1 : em X (4 + c) n 1 1 = X 1 1 := em_ne (by omega)
  have l2 : em X (4 + c) n 1 2 = X 1 2 := em_ne (by omega)
  have l3 : em X (4 + c) n 1 3 = X 1 3 := em_ne (by omega)
  have li : ∀ i, i < 4 → ∀ kk, em X (4 + c) n kk i = X kk i := fun i hi kk => em_ne (by omega)
  have w1 : ∀ c', em X (4 + c) n 1 (4 + c') 1 = X 1 (4 + c') 1 := fun c' => by
    by_cases e : c' = c
    · subst e; rw [em_1]; rfl
    · rw [em_ne (by omega)]
  have w0 : ∀ i, em X (4 + c) n 2 i 0 = X 2 i 0 := fun i => by
    by_cases e : i = 4 + c
    · subst e; rw [em_2, if_neg (by omega)]
    · rw [em_ne e]
  refine ⟨?_, ?_, ?_, ?_, ?_, ?_, ?_, ?_, ?_, ?_, ?_, trivial⟩
  · simp only [nS, l1]; exact wv_stu h
  · exact wv_new h
  · simp only [nC, l0]; exact wv_crs h
  · simp only [nR, l3]; exact wv_rul h
  · simp only [nF, l2]; exact wv_frm h
  · intro i hi; rw [li i hi, li i hi]; exact wv_lst h i hi
  · intro i hi; rw [li i hi]; exact wv_ls0 h i hi
  · intro i j hi; rw [li i hi, li i hi]; exact wv_le h i j hi
  · intro c' hc' he
    simp only [nC, l0] at hc'
    rw [w1] at he
    rw [w0, em_n]
    have q := wv_wst h c' hc' he
    have q2 : 0 ≤ X 1 (4 + c') 2 := (wo_wN hO c' hc').1
    refine ⟨q.1, ?_⟩
    split
    · omega
    · exact q.2
  · intro c' hc' he
    simp only [nC, l0] at hc'
    rw [w1] at he
    rw [em_n]
    split
    · rfl
    · exact wv_ws0 h c' hc' he
  · intro i; rw [w0]; exact wv_cap h i
theorem wx_em {ν : Nat → Nat → Bool} {X : XM} (h : WX ν X) (c n : Nat) : WX ν (em X (4 + c) n) := ⟨wo_em h.1 c n, wv_em h.2 h.1 c n⟩
/-- the lists of the first n courses emptied -/
def emA (X : XM) : Nat → XM
  | 0 => X
  | n + 1 => em (emA X n) (4 + n) (emA X n 1 (4 + n) 2).toNat
theorem wx_emA {ν : Nat → Nat → Bool} {X : XM} (h : WX ν X) : ∀ n, WX ν (emA X n)
  | 0 => h
  | n + 1 => wx_em (wx_emA h n) n _
theorem emA_l (X : XM) {i : Nat} (hi : i < 4) (k : Nat) : ∀ n, emA X n k i = X k i
  | 0 => rfl
  | n + 1 => by rw [emA, em_ne (by omega)]; exact emA_l X hi k n
theorem emA_k (X : XM) {k : Nat} (h1 : k ≠ 1) (h2 : k ≠ 2) : ∀ n, emA X n k = X k
  | 0 => rfl
  | n + 1 => by rw [emA, em_k h1 h2]; exact emA_k X h1 h2 n
theorem emA_w (X : XM) (c : Nat) : ∀ n, emA X n 1 (4 + c) 2 = if c < n then 0 else X 1 (4 + c) 2
  | 0 => by rw [if_neg (Nat.not_lt_zero c)]; rfl
  | n + 1 => by
    rw [emA, em_n, emA_w X c n]
    by_cases e : c = n
    · rw [if_pos e, if_pos (by omega)]
    · rw [if_neg e]
      by_cases q : c < n
      · rw [if_pos q, if_pos (by omega)]
      · rw [if_neg q, if_neg (by omega)]
theorem lw_i2 {g : Gt} {α : AL} {ν : Nat → Nat → Bool} {Z W : XM} {h : AH} (hT : TR g α ν Z h) (hW : WX ν W) (e1 : Z 1 = W 1) (e2 : Z 2 = W 2) {i : Nat} (hi : i < 4) : LW ν Z i := by
  unfold LW
  rw [e1, e2]
  have e : 0 ≤ W 1 i 2 := by
    rcases (show i = 0 ∨ i = 1 ∨ i = 2 ∨ i = 3 by omega) with rfl | rfl | rfl | rfl
    · exact (wo_nC hW.1).1
    · exact (wo_nS hW.1).1
    · exact (wo_nF hW.1).1
    · exact (wo_nR hW.1).1
  refine ⟨?_, wv_lst hW.2 i hi, wv_ls0 hW.2 i hi, e, wv_cap hW.2 i⟩
  rcases (show i = 0 ∨ i = 1 ∨ i = 2 ∨ i = 3 by omega) with rfl | rfl | rfl | rfl
  · exact tv1_0 hT
  · exact tv1_1 hT
  · exact tv1_2 hT
  · exact tv1_3 hT
theorem lw_w2 {g : Gt} {α : AL} {ν : Nat → Nat → Bool} {Z W : XM} {h : AH} (hT : TR g α ν Z h) (hW : WX ν W) (e1 : Z 1 = W 1) (e2 : Z 2 = W 2) {c : Nat} (hc : (c : Int) < nC W) : LW ν Z (4 + c) := by
  unfold LW
  rw [e1, e2]
  exact ⟨tv1_W hT (wx_crs hW hc), wv_wst hW.2 c hc, wv_ws0 hW.2 c hc, (wo_wN hW.1 c hc).1, wv_cap hW.2 _⟩
set_option maxRecDepth 100000 in
set_option maxHeartbeats 4000000 in
theorem c_X11_emptyWaitingLists {g : Gt} {α : AL} {ν : Nat → Nat → Bool} {X : XM} {h : AH} {Y : XM} (hT : TR g α ν Y h) {d : Int} (hY : Y = xs X 0 0 5 d) (hW0 : WX ν X) : Mu g α ν M_X11_emptyWaitingLists 5 [.ref (α 0 0)] h (none) (fun X' => X' = xs (emA X (nC X).toNat) 0 0 5 d) := by
  refine mu_of rfl rfl (ls := [some (.ref (α 0 0)), none]) rfl (Nat.le_of_ble_eq_true rfl) ?_
  show Ev g M_X11_emptyWaitingLists 5 0 [some (.ref (α 0 0)), none] [] h 0 0 (UQ g α ν (none) (fun X' => X' = xs (emA X (nC X).toNat) 0 0 5 d))
  have q1 := wo_nC hW0.1
  refine tj_iconst 1 dX11_emptyWaitingLists_0 rfl ?_
  refine ev_ist1 2 dX11_emptyWaitingLists_1 rfl (by decide) rfl ?_
  have lp2 : ∀ (n2 : Nat) (c : Nat) (z1 : Int)  (h : AH) (X2 : XM), 21 - c < n2 → ((c : Int) ≤ nC X) → z1 = (c : Int) → TR g α ν X2 h → X2 = xs (emA X c) 0 0 5 d → Ev g M_X11_emptyWaitingLists 5 2 [some (.ref (α 0 0)), some (.int (J z1))] [] h 0 0 (UQ g α ν (none) (fun X' => X' = xs (emA X (nC X).toNat) 0 0 5 d)) := by
    intro n2
    induction n2 with
    | zero => intro c z1 h X2 hm; exact absurd hm (Nat.not_lt_zero _)
    | succ n2 ih2 =>
      intro c z1 h X2 hm2 hc e1 hT hI
      subst e1
      have hA := wx_emA hW0 c
      have e1 : X2 1 = emA X c 1 := by rw [hI]; exact xs_nk (by decide)
      have e2 : X2 2 = emA X c 2 := by rw [hI]; exact xs_nk (by decide)
      have hL := lw_i2 hT hA e1 e2 (i := 0) (by decide)
      have e0 : X2 1 0 2 = nC X := by rw [e1, emA_l X (by decide)]
      have en : nC (emA X c) = nC X := by unfold nC; rw [emA_l X (by decide)]
      refine ev_ild1 3 dX11_emptyWaitingLists_2 rfl ?_
      refine ev_ald0 4 dX11_emptyWaitingLists_3 rfl ?_
      refine ev_getfield 7 13 0 fl_X11_12_13 (tr0 hT) rfl dX11_emptyWaitingLists_4 rfl ?_
      refine tc_V0 10 2 dX11_emptyWaitingLists_7 lkv_X11_70 (tr1_0 hT) rfl rfl (by first | decide | omega) (Nat.le_of_ble_eq_true rfl) (c_Jx4a65c_size_8abf5 hT hL) ?_
      refine tj_icmp_ge 36 13 dX11_emptyWaitingLists_10 (by decide) rfl (by first | exact TR.rng hT _ _ _ | exact R31_of _ | exact bi_R _ | (constructor <;> omega)) (by first | exact TR.rng hT _ _ _ | exact R31_of _ | exact bi_R _ | (constructor <;> omega)) (fun c10 => ?_) (fun c10 => ?_)
      · skip
        exact ev_vreturn (uq_v hT (by show X2 = _; rw [hI, show (nC X).toNat = c by omega])) rfl dX11_emptyWaitingLists_36
      · skip
        have hcA : (c : Int) < nC (emA X c) := by omega
        have hcv := wx_crs hA hcA
        have hLw := lw_w2 hT hA e1 e2 hcA
        have hw6 := wo_wN hA.1 c hcA
        have ew : X2 1 (4 + c) 2 = emA X c 1 (4 + c) 2 := by rw [e1]
        refine ev_ald0 14 dX11_emptyWaitingLists_13 rfl ?_
        refine ev_getfield 17 13 0 fl_X11_12_13 (tr0 hT) rfl dX11_emptyWaitingLists_14 rfl ?_
        refine ev_ild1 18 dX11_emptyWaitingLists_17 rfl ?_
        refine tc_V1 21 2 dX11_emptyWaitingLists_18 lkv_X11_276 (tr1_0 hT) rfl rfl (by first | decide | omega) (Nat.le_of_ble_eq_true rfl) (c_Jx4a65c_get_915e3 hT hL (by omega) (el_of (show X2 2 0 (c + 1) = (c : Int) by rw [e2]; exact wv_le hA.2 0 c (by decide) (by rw [← e1]; omega)))) ?_
        refine ev_castS 24 dX11_emptyWaitingLists_21 cl_X11_79 (tr12 hT (by first | assumption | exact wx_stu hW (by omega) | exact wx_crs hW (by omega) | exact wx_new hW)) rfl rfl ?_
        refine ev_getfield 27 5 4 fl_X11_217_5 (tr12 hT (by first | assumption | exact wx_stu hW (by omega) | exact wx_crs hW (by omega) | exact wx_new hW)) rfl dX11_emptyWaitingLists_24 rfl ?_
        refine tmv_V0 30 2 dX11_emptyWaitingLists_27 lkv_X11_443 (tr1_W hT (by first | assumption | exact wx_stu hW (by omega) | exact wx_crs hW (by omega) | exact wx_new hW)) rfl rfl (by first | decide | omega) (Nat.le_of_ble_eq_true rfl) (clr_c hT hLw (by omega)) (fun h X1 hT hP27 => ?_)
        have hI1 : X1 = xs (emA X (c + 1)) 0 0 5 d := by rw [hP27, ew, hI, em_x]; rfl
        refine tj_inc1 33 dX11_emptyWaitingLists_30 rfl (by decide) rfl ?_
        refine ev_goto 2 dX11_emptyWaitingLists_33 (by decide) ?_
        exact ih2 (c + 1) _ _ _ (by omega) (by first | omega | assumption | omega) (by first | rfl | omega | (omega)) hT (by first | assumption | (first | exact hY | exact hI1))
  exact lp2 _ (0) _ _ _ (Nat.lt_succ_self _) (by first | omega | assumption | omega) (by first | rfl | omega | (omega)) hT (by first | assumption | (first | exact hY | exact hI1))
