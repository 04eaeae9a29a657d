/-! THE LAW: its switch, its loop, its entry -/
set_option maxRecDepth 100000 in
set_option maxHeartbeats 4000000 in
/-- what the switch leads to, whatever the script says -/
theorem lw_switch {g : Gt} {α : AL} {ν : Nat → Nat → Bool} {X : XM} {h : AH} {k : Int} {i mc ms : Nat} {Q : RT → AH → Prop} (hl : (gX g).2.1 ≤ 2048) (hi : i + 3 < (gX g).2.1) (hT : TR g α ν X h) (hI : INV k ν X) (hk : k ≤ 512) (n : Nat) (hn : n < 64) (kk : ∀ α' ν' X' h', FIX α α' → TR g α' ν' X' h' → INV (k + 1) ν' X' → Ev g M_L_law 2048 3533 (lsL g α (i : Int)) [] h' mc ms Q) : Ev g M_L_law 2048 44 (lsL g α (i : Int)) [.int (J (n : Int))] h (28 + mc) (287 + ms) Q := by
  by_cases hbig : 53 ≤ n
  · refine ev_tswOut 3533 dL_law_44 ⟨by omega, by omega⟩ (Or.inr (by omega)) (by decide) ?_
    refine ev_mono (mc := mc) (ms := ms) (by omega) (by omega) ?_
    exact kk _ _ _ _ (FIX.rf α) hT ⟨hI.1, hI.2.1, hI.2.2.1, hI.2.2.2.1, by have := hI.2.2.2.2; omega⟩
  have h53 : n < 53 := by omega
  rcases (show n < 52 ∨ n = 52 by omega) with h52 | rfl
  rotate_left
  · exact ev_tswIn 52 3520 dL_law_44 rfl rfl (by decide) ⟨by decide, by decide⟩ (by decide) (sg_isSound hl hi hT hI hk kk)
  rcases (show n < 51 ∨ n = 51 by omega) with h51 | rfl
  rotate_left
  · exact ev_tswIn 51 3457 dL_law_44 rfl rfl (by decide) ⟨by decide, by decide⟩ (by decide) (sg_canGraduate hl hi hT hI hk kk)
  rcases (show n < 50 ∨ n = 50 by omega) with h50 | rfl
  rotate_left
  · exact ev_tswIn 50 3389 dL_law_44 rfl rfl (by decide) ⟨by decide, by decide⟩ (by decide) (sg_setDegree hl hi hT hI hk kk)
  rcases (show n < 49 ∨ n = 49 by omega) with h49 | rfl
  rotate_left
  · exact ev_tswIn 49 3321 dL_law_44 rfl rfl (by decide) ⟨by decide, by decide⟩ (by decide) (sg_ruleFor hl hi hT hI hk kk)
  rcases (show n < 48 ∨ n = 48 by omega) with h48 | rfl
  rotate_left
  · exact ev_tswIn 48 3265 dL_law_44 rfl rfl (by decide) ⟨by decide, by decide⟩ (by decide) (sg_lackingByTrial hl hi hT hI hk kk)
  rcases (show n < 47 ∨ n = 47 by omega) with h47 | rfl
  rotate_left
  · exact ev_tswIn 47 3209 dL_law_44 rfl rfl (by decide) ⟨by decide, by decide⟩ (by decide) (sg_lackingRules hl hi hT hI hk kk)
  rcases (show n < 46 ∨ n = 46 by omega) with h46 | rfl
  rotate_left
  · exact ev_tswIn 46 3153 dL_law_44 rfl rfl (by decide) ⟨by decide, by decide⟩ (by decide) (sg_mostMetIf hl hi hT hI hk kk)
  rcases (show n < 45 ∨ n = 45 by omega) with h45 | rfl
  rotate_left
  · exact ev_tswIn 45 3097 dL_law_44 rfl rfl (by decide) ⟨by decide, by decide⟩ (by decide) (sg_mostMetByTrial hl hi hT hI hk kk)
  rcases (show n < 44 ∨ n = 44 by omega) with h44 | rfl
  rotate_left
  · exact ev_tswIn 44 3041 dL_law_44 rfl rfl (by decide) ⟨by decide, by decide⟩ (by decide) (sg_mostMet hl hi hT hI hk kk)
  rcases (show n < 43 ∨ n = 43 by omega) with h43 | rfl
  rotate_left
  · exact ev_tswIn 43 2966 dL_law_44 rfl rfl (by decide) ⟨by decide, by decide⟩ (by decide) (sg_allow hl hi hT hI hk kk)
  rcases (show n < 42 ∨ n = 42 by omega) with h42 | rfl
  rotate_left
  · exact ev_tswIn 42 2886 dL_law_44 rfl rfl (by decide) ⟨by decide, by decide⟩ (by decide) (sg_addRule hl hi hT hI hk kk)
  rcases (show n < 41 ∨ n = 41 by omega) with h41 | rfl
  rotate_left
  · exact ev_tswIn 41 2818 dL_law_44 rfl rfl (by decide) ⟨by decide, by decide⟩ (by decide) (sg_transcriptAt hl hi hT hI hk kk)
  rcases (show n < 40 ∨ n = 40 by omega) with h40 | rfl
  rotate_left
  · exact ev_tswIn 40 2762 dL_law_44 rfl rfl (by decide) ⟨by decide, by decide⟩ (by decide) (sg_transcriptLength hl hi hT hI hk kk)
  rcases (show n < 39 ∨ n = 39 by omega) with h39 | rfl
  rotate_left
  · exact ev_tswIn 39 2706 dL_law_44 rfl rfl (by decide) ⟨by decide, by decide⟩ (by decide) (sg_termsTo hl hi hT hI hk kk)
  rcases (show n < 38 ∨ n = 38 by omega) with h38 | rfl
  rotate_left
  · exact ev_tswIn 38 2638 dL_law_44 rfl rfl (by decide) ⟨by decide, by decide⟩ (by decide) (sg_whyLong hl hi hT hI hk kk)
  rcases (show n < 37 ∨ n = 37 by omega) with h37 | rfl
  rotate_left
  · exact ev_tswIn 37 2570 dL_law_44 rfl rfl (by decide) ⟨by decide, by decide⟩ (by decide) (sg_whyNot hl hi hT hI hk kk)
  rcases (show n < 36 ∨ n = 36 by omega) with h36 | rfl
  rotate_left
  · exact ev_tswIn 36 2492 dL_law_44 rfl rfl (by decide) ⟨by decide, by decide⟩ (by decide) (sg_share hl hi hT hI hk kk)
  rcases (show n < 35 ∨ n = 35 by omega) with h35 | rfl
  rotate_left
  · exact ev_tswIn 35 2424 dL_law_44 rfl rfl (by decide) ⟨by decide, by decide⟩ (by decide) (sg_freeSeats hl hi hT hI hk kk)
  rcases (show n < 34 ∨ n = 34 by omega) with h34 | rfl
  rotate_left
  · exact ev_tswIn 34 2356 dL_law_44 rfl rfl (by decide) ⟨by decide, by decide⟩ (by decide) (sg_placeOf hl hi hT hI hk kk)
  rcases (show n < 33 ∨ n = 33 by omega) with h33 | rfl
  rotate_left
  · exact ev_tswIn 33 2300 dL_law_44 rfl rfl (by decide) ⟨by decide, by decide⟩ (by decide) (sg_waiting hl hi hT hI hk kk)
  rcases (show n < 32 ∨ n = 32 by omega) with h32 | rfl
  rotate_left
  · exact ev_tswIn 32 2244 dL_law_44 rfl rfl (by decide) ⟨by decide, by decide⟩ (by decide) (sg_enrolled hl hi hT hI hk kk)
  rcases (show n < 31 ∨ n = 31 by omega) with h31 | rfl
  rotate_left
  · exact ev_tswIn 31 2169 dL_law_44 rfl rfl (by decide) ⟨by decide, by decide⟩ (by decide) (sg_isEnrolled hl hi hT hI hk kk)
  rcases (show n < 30 ∨ n = 30 by omega) with h30 | rfl
  rotate_left
  · exact ev_tswIn 30 2113 dL_law_44 rfl rfl (by decide) ⟨by decide, by decide⟩ (by decide) (sg_load hl hi hT hI hk kk)
  rcases (show n < 29 ∨ n = 29 by omega) with h29 | rfl
  rotate_left
  · exact ev_tswIn 29 2036 dL_law_44 rfl rfl (by decide) ⟨by decide, by decide⟩ (by decide) (sg_average hl hi hT hI hk kk)
  rcases (show n < 28 ∨ n = 28 by omega) with h28 | rfl
  rotate_left
  · exact ev_tswIn 28 2022 dL_law_44 rfl rfl (by decide) ⟨by decide, by decide⟩ (by decide) (sg_allEarned hl hi hT hI hk kk)
  rcases (show n < 27 ∨ n = 27 by omega) with h27 | rfl
  rotate_left
  · exact ev_tswIn 27 1966 dL_law_44 rfl rfl (by decide) ⟨by decide, by decide⟩ (by decide) (sg_earnedCredits hl hi hT hI hk kk)
  rcases (show n < 26 ∨ n = 26 by omega) with h26 | rfl
  rotate_left
  · exact ev_tswIn 26 1898 dL_law_44 rfl rfl (by decide) ⟨by decide, by decide⟩ (by decide) (sg_attempts hl hi hT hI hk kk)
  rcases (show n < 25 ∨ n = 25 by omega) with h25 | rfl
  rotate_left
  · exact ev_tswIn 25 1830 dL_law_44 rfl rfl (by decide) ⟨by decide, by decide⟩ (by decide) (sg_bestMark hl hi hT hI hk kk)
  rcases (show n < 24 ∨ n = 24 by omega) with h24 | rfl
  rotate_left
  · exact ev_tswIn 24 1762 dL_law_44 rfl rfl (by decide) ⟨by decide, by decide⟩ (by decide) (sg_moveIn hl hi hT hI hk kk)
  rcases (show n < 23 ∨ n = 23 by omega) with h23 | rfl
  rotate_left
  · exact ev_tswIn 23 1718 dL_law_44 rfl rfl (by decide) ⟨by decide, by decide⟩ (by decide) (sg_endTerm hl hi hT hI hk kk)
  rcases (show n < 22 ∨ n = 22 by omega) with h22 | rfl
  rotate_left
  · exact ev_tswIn 22 1631 dL_law_44 rfl rfl (by decide) ⟨by decide, by decide⟩ (by decide) (sg_mark hl hi hT hI hk kk)
  rcases (show n < 21 ∨ n = 21 by omega) with h21 | rfl
  rotate_left
  · exact ev_tswIn 21 1551 dL_law_44 rfl rfl (by decide) ⟨by decide, by decide⟩ (by decide) (sg_swap hl hi hT hI hk kk)
  rcases (show n < 20 ∨ n = 20 by omega) with h20 | rfl
  rotate_left
  · exact ev_tswIn 20 1483 dL_law_44 rfl rfl (by decide) ⟨by decide, by decide⟩ (by decide) (sg_drop hl hi hT hI hk kk)
  rcases (show n < 19 ∨ n = 19 by omega) with h19 | rfl
  rotate_left
  · exact ev_tswIn 19 1415 dL_law_44 rfl rfl (by decide) ⟨by decide, by decide⟩ (by decide) (sg_outcome hl hi hT hI hk kk)
  rcases (show n < 18 ∨ n = 18 by omega) with h18 | rfl
  rotate_left
  · exact ev_tswIn 18 1347 dL_law_44 rfl rfl (by decide) ⟨by decide, by decide⟩ (by decide) (sg_enroll hl hi hT hI hk kk)
  rcases (show n < 17 ∨ n = 17 by omega) with h17 | rfl
  rotate_left
  · exact ev_tswIn 17 1334 dL_law_44 rfl rfl (by decide) ⟨by decide, by decide⟩ (by decide) (sg_term hl hi hT hI hk kk)
  rcases (show n < 16 ∨ n = 16 by omega) with h16 | rfl
  rotate_left
  · exact ev_tswIn 16 1321 dL_law_44 rfl rfl (by decide) ⟨by decide, by decide⟩ (by decide) (sg_day hl hi hT hI hk kk)
  rcases (show n < 15 ∨ n = 15 by omega) with h15 | rfl
  rotate_left
  · exact ev_tswIn 15 1265 dL_law_44 rfl rfl (by decide) ⟨by decide, by decide⟩ (by decide) (sg_pass hl hi hT hI hk kk)
  rcases (show n < 14 ∨ n = 14 by omega) with h14 | rfl
  rotate_left
  · exact ev_tswIn 14 1202 dL_law_44 rfl rfl (by decide) ⟨by decide, by decide⟩ (by decide) (sg_lift hl hi hT hI hk kk)
  rcases (show n < 13 ∨ n = 13 by omega) with h13 | rfl
  rotate_left
  · exact ev_tswIn 13 1127 dL_law_44 rfl rfl (by decide) ⟨by decide, by decide⟩ (by decide) (sg_require hl hi hT hI hk kk)
  rcases (show n < 12 ∨ n = 12 by omega) with h12 | rfl
  rotate_left
  · exact ev_tswIn 12 1052 dL_law_44 rfl rfl (by decide) ⟨by decide, by decide⟩ (by decide) (sg_holds hl hi hT hI hk kk)
  rcases (show n < 11 ∨ n = 11 by omega) with h11 | rfl
  rotate_left
  · exact ev_tswIn 11 996 dL_law_44 rfl rfl (by decide) ⟨by decide, by decide⟩ (by decide) (sg_noneFormula hl hi hT hI hk kk)
  rcases (show n < 10 ∨ n = 10 by omega) with h10 | rfl
  rotate_left
  · exact ev_tswIn 10 916 dL_law_44 rfl rfl (by decide) ⟨by decide, by decide⟩ (by decide) (sg_twoFormula hl hi hT hI hk kk)
  rcases (show n < 9 ∨ n = 9 by omega) with h9 | rfl
  rotate_left
  · exact ev_tswIn 9 848 dL_law_44 rfl rfl (by decide) ⟨by decide, by decide⟩ (by decide) (sg_anyFormula hl hi hT hI hk kk)
  rcases (show n < 8 ∨ n = 8 by omega) with h8 | rfl
  rotate_left
  · exact ev_tswIn 8 780 dL_law_44 rfl rfl (by decide) ⟨by decide, by decide⟩ (by decide) (sg_allFormula hl hi hT hI hk kk)
  rcases (show n < 7 ∨ n = 7 by omega) with h7 | rfl
  rotate_left
  · exact ev_tswIn 7 724 dL_law_44 rfl rfl (by decide) ⟨by decide, by decide⟩ (by decide) (sg_creditsFormula hl hi hT hI hk kk)
  rcases (show n < 6 ∨ n = 6 by omega) with h6 | rfl
  rotate_left
  · exact ev_tswIn 6 668 dL_law_44 rfl rfl (by decide) ⟨by decide, by decide⟩ (by decide) (sg_togetherFormula hl hi hT hI hk kk)
  rcases (show n < 5 ∨ n = 5 by omega) with h5 | rfl
  rotate_left
  · exact ev_tswIn 5 600 dL_law_44 rfl rfl (by decide) ⟨by decide, by decide⟩ (by decide) (sg_markFormula hl hi hT hI hk kk)
  rcases (show n < 4 ∨ n = 4 by omega) with h4 | rfl
  rotate_left
  · exact ev_tswIn 4 520 dL_law_44 rfl rfl (by decide) ⟨by decide, by decide⟩ (by decide) (sg_reserve hl hi hT hI hk kk)
  rcases (show n < 3 ∨ n = 3 by omega) with h3 | rfl
  rotate_left
  · exact ev_tswIn 3 464 dL_law_44 rfl rfl (by decide) ⟨by decide, by decide⟩ (by decide) (sg_majorOf hl hi hT hI hk kk)
  rcases (show n < 2 ∨ n = 2 by omega) with h2 | rfl
  rotate_left
  · exact ev_tswIn 2 396 dL_law_44 rfl rfl (by decide) ⟨by decide, by decide⟩ (by decide) (sg_changeMajor hl hi hT hI hk kk)
  rcases (show n < 1 ∨ n = 1 by omega) with h1 | rfl
  rotate_left
  · exact ev_tswIn 1 340 dL_law_44 rfl rfl (by decide) ⟨by decide, by decide⟩ (by decide) (sg_addStudent hl hi hT hI hk kk)
  obtain rfl : n = 0 := by omega
  exact ev_tswIn 0 272 dL_law_44 rfl rfl (by decide) ⟨by decide, by decide⟩ (by decide) (sg_addCourse hl hi hT hI hk kk)
set_option maxRecDepth 100000 in
set_option maxHeartbeats 4000000 in
/-- the law's loop, k calls done -/
theorem lw_loop {g : Gt} {Q : RT → AH → Prop} (hl : (gX g).2.1 ≤ 2048) (hQ : ∀ h, Q (.inl (some (.int (J 1)))) h) : ∀ (n : Nat) (α : AL) (ν : Nat → Nat → Bool) (X : XM) (h : AH) (k : Nat), 513 - k ≤ n → k ≤ 512 → TR g α ν X h → INV (k : Int) ν X → Ev g M_L_law 2048 28 (lsL g α ((4 * k : Nat) : Int)) [] h (28 * (512 - k)) (287 * (512 - k)) Q := by
  intro n
  induction n with
  | zero => intro α ν X h k hm hk; exact absurd hm (by omega)
  | succ n ih =>
    intro α ν X h k hm hk hT hI
    refine ev_ild5 30 dL_law_28 rfl ?_
    refine ev_ald0 31 dL_law_30 rfl ?_
    refine ev_scl 32 hl dL_law_31 rfl ?_
    refine tj_iconst 33 dL_law_32 rfl ?_
    refine tj_isub 34 dL_law_33 rfl ?_
    refine tj_icmp_gt 3539 37 dL_law_34 (by decide) rfl ⟨by omega, by omega⟩ ⟨by omega, by omega⟩ (fun c => ?_) (fun c => ?_)
    · refine tj_iconst 3540 dL_law_3539 rfl ?_
      exact ev_zreturn (ty := .boolean) (hQ h) rfl rfl dL_law_3540
    · have hi : 4 * k + 3 < (gX g).2.1 := by omega
      refine ev_ald0 38 dL_law_37 rfl ?_
      refine ev_ild5 40 dL_law_38 rfl ?_
      refine ev_scr (4 * k) 41 rfl (by omega) hl dL_law_40 rfl ?_
      refine tj_bipush 43 dL_law_41 (by decide) rfl ?_
      refine ev_iand 44 dL_law_43 rfl ?_
      obtain ⟨m, hm63, e⟩ := and_63 ((gX g).2.2 (4 * k))
      rw [e]
      refine ev_mono (mc := 28 + 28 * (512 - (k + 1))) (ms := 287 + 287 * (512 - (k + 1))) (by omega) (by omega) ?_
      refine lw_switch hl hi hT hI (by omega) m hm63 (fun α' ν' X' h' hf hT' hI' => ?_)
      refine tj_inc5 3536 dL_law_3533 rfl (by decide) rfl ?_
      refine ev_goto 28 dL_law_3536 (by decide) ?_
      have q := ih α' ν' X' h' (k + 1) (by omega) (by omega) hT' hI'
      have e9 : lsL g α' ((4 * (k + 1) : Nat) : Int) = lsL g α (((4 * k : Nat) : Int) + 4) := by
        unfold lsL
        rw [hf.1, hf.2.1, hf.2.2.1, hf.2.2.2, show ((4 * (k + 1) : Nat) : Int) = ((4 * k : Nat) : Int) + 4 by omega]
      rw [e9] at q
      exact q
theorem ev_newk {g : Gt} {M : Mt} {d pc : Nat} {ls : List (Option Value)} {st : List Value} {h : AH} {mc ms : Nat} {Q : RT → AH → Prop} {index k : Nat} {fs : List Value} (n ci : Nat) (N : NW (mY M).cls index ci fs) (hk : fs.length = k) (hd : decode (mC M) pc = .ok (.new index, 3)) (hn : pc + 3 = n) (kk : ∀ q, h q = none → gB g ≤ q → Ev g M d n ls (.ref q :: st) (hup h q (.inr (ci, fs))) mc ms Q) : Ev g M d pc ls st h (mc + 1) (ms + k) Q := by
  subst hk
  exact ev_new n ci N hd hn kk
set_option maxRecDepth 100000 in
set_option maxHeartbeats 4000000 in
/-- the law from its entry -/
theorem lw_entry {g : Gt} {Q : RT → AH → Prop} (hl : (gX g).2.1 ≤ 2048) (hQ : ∀ h, Q (.inl (some (.int (J 1)))) h) : Ev g M_L_law 2048 0 [some (.ref (gX g).1), none, none, none, none, none, none, none, none] [] (fun _ => none) 603072 7194730 Q := by
  obtain ⟨ma, hma⟩ : ∃ z : Nat, 28 * (512 - 0) = z := ⟨_, rfl⟩
  obtain ⟨mb, hmb⟩ : ∃ z : Nat, 287 * (512 - 0) = z := ⟨_, rfl⟩
  refine ev_mono (mc := 46 + (26 + (ma + 1 + 1) + 1) + 1) (ms := 905 + (2960 + (mb + 1 + 1) + 39) + 12) (by omega) (by omega) ?_
  refine ev_newk 3 13 nw_L_8 rfl dL_law_0 rfl (fun q0 hq0 hb0 => ?_)
  refine ev_dup 4 dL_law_3 rfl rfl ?_
  refine kv_init (d := 2048) (d1 := 5) (st := [.ref q0]) 7 lki_L_178 (k_X11_init (hup_eq _ _ _) hb0) (by decide) rfl rfl (Nat.le_of_ble_eq_true rfl) dL_law_4 rfl (fun h1 hP => ?_)
  obtain ⟨a1, a2, a3, a4, a5, a6, a7, a8, a9, a10, a11, a12, r13, a14, a15, a16, a17, a18, a19, a20, a21, a22, a23, a24, a25, a26, a27, K1⟩ := hP
  have F1 := FR.of_KN hq0 K1
  refine ev_ast1 8 dL_law_7 rfl (by decide) rfl ?_
  refine ev_newk 11 14 nw_L_179 rfl dL_law_8 rfl (fun q1 hq1 hb1 => ?_)
  refine ev_dup 12 dL_law_11 rfl rfl ?_
  refine kv_init (d := 2048) (d1 := 5) (st := [.ref q1]) 15 lki_L_181 (k_X12_init (hup_eq _ _ _) hb1) (by decide) rfl rfl (Nat.le_of_ble_eq_true rfl) dL_law_12 rfl (fun h2 hP => ?_)
  obtain ⟨b1, b2, b3, b4, b5, b6, b7, b8, b9, b10, b11, b12, b13, b14, b15, b16, b17, b18, b19, b20, b21, b22, b23, b24, b25, b26, K2⟩ := hP
  have F2 := FR.of_KN hq1 K2
  refine ev_ast2 16 dL_law_15 rfl (by decide) rfl ?_
  refine tj_iconst 17 dL_law_16 rfl ?_
  refine ev_newarray (ki := 5) (N' := 1) (a0 := (1, .inr (.inl (fun _ => 0)))) 19 dL_law_17 rfl rfl awlong (fun _ => rfl) (by decide) (by decide) (by decide) rfl (fun q2 hq2 hb2 => ?_)
  have F3 := FR.one (c := zl 1) hq2 hb2
  refine ev_ast3 20 dL_law_19 rfl (by decide) rfl ?_
  refine tj_iconst 21 dL_law_20 rfl ?_
  refine ev_newarray (ki := 6) (N' := 1) (a0 := (1, .inr (.inr (.inr (.inl (fun _ => 0)))))) 23 dL_law_21 rfl rfl awdouble (fun _ => rfl) (by decide) (by decide) (by decide) rfl (fun q3 hq3 hb3 => ?_)
  have F4 := FR.one (c := zd 1) hq3 hb3
  refine ev_ast4 25 dL_law_23 rfl (by decide) rfl ?_
  refine tj_iconst 26 dL_law_25 rfl ?_
  refine ev_ist5 28 dL_law_26 rfl (by decide) rfl ?_
  have F : FR g (fun _ => none) _ (Z0 g (fun n => ([0, a1, a2, a3, a4, a5, a6, a7, a8, a9, a10, a11, a12, 0, a14, a15, a16, a17, a18, a19, a20, a21, a22, a23, a24, a25, a26, a27] : List Nat).getD n 0) r13 (fun n => ([0, b1, b2, b3, b4, b5, b6, b7, b8, b9, b10, b11, b12, b13, b14, b15, b16, b17, b18, b19, b20, b21, b22, b23, b24, b25, b26] : List Nat).getD n 0) q0 q1 q2 q3) := ((F1.app F2).app F3).app F4
  have hT := tr_first F
  have hI : INV ((0 : Nat) : Int) nu0 X0 := ⟨wx_0, nv_0, rm_0, fun c _ => far_0 c, Int.le_refl 0⟩
  have q := lw_loop hl hQ 513 _ nu0 X0 _ 0 (by decide) (by decide) hT hI
  rw [hma, hmb] at q
  exact q
