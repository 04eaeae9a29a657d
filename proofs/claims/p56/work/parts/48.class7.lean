/-! THE CLASS: attempts; the terms to a course -/
section RU8
variable {g : Gt} {α : AL} {ν : Nat → Nat → Bool} {X : XM} {M M2 : Mt} {d d1 pc : Nat} {ls : List (Option Value)} {st : List Value} {h : AH} {mc ms mc1 ms1 : Nat} {Q : RT → AH → Prop}
theorem tv_alen {a len : Nat} {x : Nat → Int} (n : Nat) (ha : h a = some (ints len x)) (hd : decode (mC M) pc = .ok (.arraylength, 1)) (hn : pc + 1 = n) (kk : Ev g M d n ls (.int (J (len : Int)) :: st) h mc ms Q) : Ev g M d pc ls (.ref a :: st) h mc ms Q := by
  refine ev_alen n ha rfl hd hn ?_
  show Ev g M d n ls (.int (nI len) :: st) h mc ms Q
  rw [J_nI]
  exact kk
end RU8
theorem xw_0 {X : XM} {k i : Nat} {v : Int} : X = xw X k i (fun q => if q < 0 then v else X k i q) := by
  funext k' i'
  by_cases e : k' = k ∧ i' = i
  · obtain ⟨rfl, rfl⟩ := e
    rw [xw_at]
    funext q
    rw [if_neg (Nat.not_lt_zero q)]
  · rw [xw_ne e]
theorem xw_s {X : XM} {k i j : Nat} {v : Int} : xs (xw X k i (fun q => if q < j then v else X k i q)) k i j v = xw X k i (fun q => if q < j + 1 then v else X k i q) := by
  funext k' i'
  by_cases e : k' = k ∧ i' = i
  · obtain ⟨rfl, rfl⟩ := e
    rw [xs_fn, xw_at, xw_at]
    funext q
    by_cases e2 : q = j
    · subst e2; rw [if_pos rfl, if_pos (Nat.lt_succ_self q)]
    · rw [if_neg e2]
      by_cases e3 : q < j
      · rw [if_pos e3, if_pos (by omega)]
      · rw [if_neg e3, if_neg (by omega)]
  · rw [xs_ne e, xw_ne e, xw_ne e]
set_option maxRecDepth 100000 in
set_option maxHeartbeats 4000000 in
theorem fill_c {g : Gt} {α : AL} {ν : Nat → Nat → Bool} {X : XM} {h : AH} (hT : TR g α ν X h) {k i L : Nat} (hv : vk ν k i = true) (hk : ∀ x, cellK g α k i x = ints L x) (hL : L < 2147483648) {v : Int} (hr : R31 v) : Mu g α ν M_J7_fill_53178 0 [.ref (α k i), .int (J v)] h (none) (fun X' => X' = xw X k i (fun j => if j < L then v else X k i j)) := by
  refine mu_of rfl rfl (ls := [some (.ref (α k i)), some (.int (J v)), none, none]) rfl (Nat.le_of_ble_eq_true rfl) ?_
  show Ev g M_J7_fill_53178 0 0 [some (.ref (α k i)), some (.int (J v)), none, none] [] h 0 0 (UQ g α ν (none) (fun X' => X' = xw X k i (fun j => if j < L then v else X k i j)))
  refine tj_iconst 1 dJ7_fill_53178_0 rfl ?_
  refine ev_ist2 2 dJ7_fill_53178_1 rfl (by decide) rfl ?_
  refine ev_ald0 3 dJ7_fill_53178_2 rfl ?_
  refine tv_alen 4 ((hT.is hv (hk _)).1) dJ7_fill_53178_3 rfl ?_
  refine ev_ist3 5 dJ7_fill_53178_4 rfl (by decide) rfl ?_
  have lp5 : ∀ (n5 : Nat) (j : Nat) (z2 : Int)  (h : AH) (X2 : XM), L + 1 - j < n5 → (j ≤ L) → z2 = (j : Int) → TR g α ν X2 h → X2 = xw X k i (fun q => if q < j then v else X k i q) → Ev g M_J7_fill_53178 0 5 [some (.ref (α k i)), some (.int (J v)), some (.int (J z2)), some (.int (J (L : Int)))] [] h 0 0 (UQ g α ν (none) (fun X' => X' = xw X k i (fun j => if j < L then v else X k i j))) := by
    intro n5
    induction n5 with
    | zero => intro j z2 h X2 hm; exact absurd hm (Nat.not_lt_zero _)
    | succ n5 ih5 =>
      intro j z2 h X2 hm5 hj e2 hT hI
      subst e2
      refine ev_ild2 6 dJ7_fill_53178_5 rfl ?_
      refine ev_ild3 7 dJ7_fill_53178_6 rfl ?_
      refine tj_icmp_ge 20 10 dJ7_fill_53178_7 (by decide) rfl (by first | exact TR.rng hT _ _ _ | exact R31_of _ | exact bi_R _ | (constructor <;> omega)) (by first | exact TR.rng hT _ _ _ | exact R31_of _ | exact bi_R _ | (constructor <;> omega)) (fun c7 => ?_) (fun c7 => ?_)
      · skip
        exact ev_vreturn (uq_v hT (by show X2 = _; rw [hI, show j = L by omega])) rfl dJ7_fill_53178_20
      · skip
        refine ev_ald0 11 dJ7_fill_53178_10 rfl ?_
        refine ev_ild2 12 dJ7_fill_53178_11 rfl ?_
        refine ev_ild1 13 dJ7_fill_53178_12 rfl ?_
        refine tv_iast 14 hT hv hk (j) (by omega) (by omega) (by omega) (by first | exact TR.rng hT _ _ _ | exact R31_of _ | exact bi_R _ | (constructor <;> omega)) dJ7_fill_53178_13 rfl (fun h hT => ?_)
        refine tj_inc2 17 dJ7_fill_53178_14 rfl (by decide) rfl ?_
        refine ev_goto 5 dJ7_fill_53178_17 (by decide) ?_
        exact ih5 (j + 1) _ _ _ (by omega) (by first | omega | assumption | omega) (by first | rfl | omega | (omega)) hT (by first | assumption | (first | exact xw_0 | (rw [hI]; exact xw_s)))
  exact lp5 _ (0) _ _ _ (Nat.lt_succ_self _) (by first | omega | assumption | omega) (by first | rfl | omega | (omega)) hT (by first | assumption | (first | exact xw_0 | (rw [hI]; exact xw_s)))
/-- one more attempt -/
def aa (X : XM) (s c : Nat) (m : Int) : XM := if X 9 s c < 3 then xs (xs (xs X 11 (20 * s + c) (X 9 s c).toNat m) 9 s c (X 9 s c + 1)) 8 s c (if X 8 s c < m then m else X 8 s c) else X
set_option maxRecDepth 100000 in
set_option maxHeartbeats 4000000 in
theorem c_X8_addAttempt {g : Gt} {α : AL} {ν : Nat → Nat → Bool} {X : XM} {h : AH} (hT : TR g α ν X h) {s : Nat} (hs : ν 4 s = true) (hl : s < 17) {c : Nat} (hc : c < 20) {m : Int} (hm : R31 m) (ht : 0 ≤ X 9 s c) : Mu g α ν M_X8_addAttempt 1 [.ref (α 4 s), .int (J (c : Int)), .int (J m)] h (none) (fun X' => X' = aa X s c m) := by
  refine mu_of rfl rfl (ls := [some (.ref (α 4 s)), some (.int (J (c : Int))), some (.int (J m)), none]) rfl (Nat.le_of_ble_eq_true rfl) ?_
  show Ev g M_X8_addAttempt 1 0 [some (.ref (α 4 s)), some (.int (J (c : Int))), some (.int (J m)), none] [] h 0 0 (UQ g α ν (none) (fun X' => X' = aa X s c m))
  have r8 := TR.rng hT 8 s c
  have hs11 : ν 4 ((20 * s + c) / 20) = true := by rw [show (20 * s + c) / 20 = s by omega]; exact hs
  refine ev_ald0 1 dX8_addAttempt_0 rfl ?_
  refine ev_getfield 4 10 5 fl_X8_25_10 (tr4 hT (by first | assumption | exact wx_stu hW (by omega) | exact wx_crs hW (by omega) | exact wx_new hW) (by omega)) rfl dX8_addAttempt_1 rfl ?_
  refine ev_ild1 5 dX8_addAttempt_4 rfl ?_
  refine tv_iald 6 (tr9 hT (by first | assumption | exact wx_stu hW (by omega) | exact wx_crs hW (by omega) | exact wx_new hW) (by omega)) (c) (by omega) (by omega) (by omega) dX8_addAttempt_5 rfl ?_
  refine ev_ist3 7 dX8_addAttempt_6 rfl (by decide) rfl ?_
  refine ev_ild3 8 dX8_addAttempt_7 rfl ?_
  refine tj_iconst 9 dX8_addAttempt_8 rfl ?_
  refine tj_icmp_ge 46 12 dX8_addAttempt_9 (by decide) rfl (by first | exact TR.rng hT _ _ _ | exact R31_of _ | exact bi_R _ | (constructor <;> omega)) (by first | exact TR.rng hT _ _ _ | exact R31_of _ | exact bi_R _ | (constructor <;> omega)) (fun c9 => ?_) (fun c9 => ?_)
  · skip
    exact ev_vreturn (uq_v hT (by first | (show _ = aa X s c m; rw [aa, if_pos (show X 9 s c < 3 by omega), hX4, hX3]) | (show _ = aa X s c m; rw [aa, if_neg (show ¬ X 9 s c < 3 by omega)]))) rfl dX8_addAttempt_46
  · skip
    refine ev_ald0 13 dX8_addAttempt_12 rfl ?_
    refine ev_getfield 16 10 6 fl_X8_30_10 (tr4 hT (by first | assumption | exact wx_stu hW (by omega) | exact wx_crs hW (by omega) | exact wx_new hW) (by omega)) rfl dX8_addAttempt_13 rfl ?_
    refine ev_ild1 17 dX8_addAttempt_16 rfl ?_
    refine tv_aald4 18 (tr10 hT (by first | assumption | exact wx_stu hW (by omega) | exact wx_crs hW (by omega) | exact wx_new hW) (by omega)) (c) (by omega) (by omega) (by omega) (if_pos hc) dX8_addAttempt_17 rfl ?_
    refine ev_ild3 19 dX8_addAttempt_18 rfl ?_
    refine ev_ild2 20 dX8_addAttempt_19 rfl ?_
    refine tv_iast 21 hT (tv11 hT (by first | assumption | exact wx_stu hW (by omega) | exact wx_crs hW (by omega) | exact wx_new hW) (by omega)) (fun _ => rfl) ((X 9 s c).toNat) (by omega) (by omega) (by omega) (by first | exact TR.rng hT _ _ _ | exact R31_of _ | exact bi_R _ | (constructor <;> omega)) dX8_addAttempt_20 rfl (fun h hT => ?_)
    obtain ⟨X3, hX3⟩ : ∃ Z, Z = xs X 11 (20 * s + c) (X 9 s c).toNat m := ⟨_, rfl⟩
    rw [← hX3] at hT
    refine ev_ald0 22 dX8_addAttempt_21 rfl ?_
    refine ev_getfield 25 10 5 fl_X8_25_10 (tr4 hT (by first | assumption | exact wx_stu hW (by omega) | exact wx_crs hW (by omega) | exact wx_new hW) (by omega)) rfl dX8_addAttempt_22 rfl ?_
    refine ev_ild1 26 dX8_addAttempt_25 rfl ?_
    refine ev_ild3 27 dX8_addAttempt_26 rfl ?_
    refine tj_iconst 28 dX8_addAttempt_27 rfl ?_
    refine tj_iadd 29 dX8_addAttempt_28 rfl ?_
    refine tv_iast 30 hT (tv9 hT (by first | assumption | exact wx_stu hW (by omega) | exact wx_crs hW (by omega) | exact wx_new hW) (by omega)) (fun _ => rfl) (c) (by omega) (by omega) (by omega) (by first | exact TR.rng hT _ _ _ | exact R31_of _ | exact bi_R _ | (constructor <;> omega)) dX8_addAttempt_29 rfl (fun h hT => ?_)
    obtain ⟨X4, hX4⟩ : ∃ Z, Z = xs X3 9 s c (X 9 s c + 1) := ⟨_, rfl⟩
    rw [← hX4] at hT
    have e8 : X4 8 = X 8 := by rw [hX4, hX3, xs_nk (by decide), xs_nk (by decide)]
    refine ev_ald0 31 dX8_addAttempt_30 rfl ?_
    refine ev_getfield 34 10 4 fl_X8_22_10 (tr4 hT (by first | assumption | exact wx_stu hW (by omega) | exact wx_crs hW (by omega) | exact wx_new hW) (by omega)) rfl dX8_addAttempt_31 rfl ?_
    refine ev_ild1 35 dX8_addAttempt_34 rfl ?_
    refine ev_ald0 36 dX8_addAttempt_35 rfl ?_
    refine ev_getfield 39 10 4 fl_X8_22_10 (tr4 hT (by first | assumption | exact wx_stu hW (by omega) | exact wx_crs hW (by omega) | exact wx_new hW) (by omega)) rfl dX8_addAttempt_36 rfl ?_
    refine ev_ild1 40 dX8_addAttempt_39 rfl ?_
    refine tv_iald 41 (tr8 hT (by first | assumption | exact wx_stu hW (by omega) | exact wx_crs hW (by omega) | exact wx_new hW) (by omega)) (c) (by omega) (by omega) (by omega) dX8_addAttempt_40 rfl ?_
    rw [e8]
    refine ev_ild2 42 dX8_addAttempt_41 rfl ?_
    refine tj_mmax 45 dX8_addAttempt_42 mmax_X8_43 (by decide) (Nat.le_of_ble_eq_true rfl) rfl (by first | exact TR.rng hT _ _ _ | exact R31_of _ | exact bi_R _ | (constructor <;> omega)) (by first | exact TR.rng hT _ _ _ | exact R31_of _ | exact bi_R _ | (constructor <;> omega)) ?_
    refine tv_iast 46 hT (tv8 hT (by first | assumption | exact wx_stu hW (by omega) | exact wx_crs hW (by omega) | exact wx_new hW) (by omega)) (fun _ => rfl) (c) (by omega) (by omega) (by omega) (by first | exact TR.rng hT _ _ _ | exact R31_of _ | exact bi_R _ | (constructor <;> omega)) dX8_addAttempt_45 rfl (fun h hT => ?_)
    exact ev_vreturn (uq_v hT (by first | (show _ = aa X s c m; rw [aa, if_pos (show X 9 s c < 3 by omega), hX4, hX3]) | (show _ = aa X s c m; rw [aa, if_neg (show ¬ X 9 s c < 3 by omega)]))) rfl dX8_addAttempt_46
