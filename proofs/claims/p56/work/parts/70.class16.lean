/-! THE CLASS: courses end, drops, swaps -/
section RU8
variable {g : Gt} {α : AL} {ν : Nat → Nat → Bool} {X : XM} {M M2 : Mt} {d d1 pc : Nat} {ls : List (Option Value)} {st : List Value} {h : AH} {mc ms : Nat} {Q : RT → AH → Prop}
/-- arraycopy of numbers or booleans, from the beginning of one to the beginning of the other -/
theorem tv_copyA {index k1 i1 k2 i2 ki len : Nat} {z0 z1 z : Int} {ty : FieldType} (n m : Nat) (hT : TR g α ν X h) (hv1 : vk ν k1 i1 = true) (hv2 : vk ν k2 i2 = true) (hk1 : ∀ x, cellK g α k1 i1 x = .inl (ki, len, .inl (fun j => J (x j)))) (hk2 : ∀ x, cellK g α k2 i2 x = .inl (ki, len, .inl (fun j => J (x j)))) (h91 : k1 ≠ 91) (h0 : z0 = 0) (h1 : z1 = 0) (hz : z = (m : Int)) (hm : m ≤ len) (hl31 : len < 2147483648) (hki : (gT g)[ki]? = some (gA g ki, ty)) (hprim : refKind ty = false) (hfit : ∀ i, i < m → fits ty (.int (J (X k1 i1 i))) = true)
    (hd : decode (mC M) pc = .ok (.invokestatic index, 3)) (hl : Cond.methodLink (mY M).cls index arraycopyName ∈ lw_tbl) (hdd : 4 ≤ d) (hcat : (st.map fun v => v.category).sum ≤ 8) (hn : pc + 3 = n)
    (kk : ∀ h', TR g α ν (xw X k2 i2 (fun j => if j < m then X k1 i1 j else X k2 i2 j)) h' → Ev g M d n ls st h' mc ms Q) : Ev g M d pc ls (.int (J z) :: .int (J z1) :: .ref (α k2 i2) :: .int (J z0) :: .ref (α k1 i1) :: st) h mc ms Q := by
  subst h0 h1 hz
  obtain ⟨a1, b1⟩ := hT.1 k1 i1 hv1
  obtain ⟨a2, b2⟩ := hT.1 k2 i2 hv2
  rw [hk1] at a1
  rw [hk2] at a2
  have c0 : (J 0).toNatClampNeg = 0 := J_clampN (j := 0) (by omega)
  have c1 : (J (m : Int)).toNatClampNeg = m := J_clampN (by omega)
  have n0 : ¬ J 0 < 0 := by rw [J_lt0 R31_0]; omega
  have n1 : ¬ J (m : Int) < 0 := by rw [J_lt0 ⟨by omega, by omega⟩]; omega
  refine ev_copyI n hd hl acw hki hprim a1 a2 b1 b2 n0 n0 n1 (by rw [c0, c1]; omega) (by rw [c0, c1]; omega) (fun i hi => by rw [c0, Nat.zero_add]; rw [c1] at hi; exact hfit i hi) hdd hcat hn ?_
  refine kk _ (hT.setx hv2 _ (fun h j => ?_) ?_)
  · by_cases q : j < m
    · simp only [q, if_true]; exact hT.rng _ _ _ h91
    · simp only [q, if_false]; exact hT.rng _ _ _ h
  · rw [hk2, c0, c1]
    refine congrArg (fun f => (Sum.inl (ki, len, Sum.inl f) : AC)) (funext fun j => ?_)
    unfold va_cpy
    by_cases q : j < m
    · rw [if_pos ⟨Nat.zero_le _, by omega⟩, if_pos q, Nat.zero_add, Nat.sub_zero]
    · rw [if_neg (by omega), if_neg q]
end RU8
theorem un_s {p : Nat → Bool} {c : Nat} (h : ∀ c2, c2 < c → p c2 = false) (hc : p c = false) : ∀ c2, c2 < c + 1 → p c2 = false := fun c2 h2 => by
  by_cases e : c2 = c
  · rw [e]; exact hc
  · exact h c2 (by omega)
set_option maxRecDepth 100000 in
set_option maxHeartbeats 4000000 in
theorem c_X11_isWithdrawalDay {g : Gt} {α : AL} {ν : Nat → Nat → Bool} {X : XM} {h : AH} (hT : TR g α ν X h) : Pr g M_X11_isWithdrawalDay 1 [.ref (α 0 0)] h (some (.int (J (bi (decide (9 ≤ X 0 0 5 ∧ X 0 0 5 ≤ 20)))))) := by
  refine pr_of rfl rfl (ls := [some (.ref (α 0 0))]) rfl (Nat.le_of_ble_eq_true rfl) ?_
  show Ev g M_X11_isWithdrawalDay 1 0 [some (.ref (α 0 0))] [] h 0 0 (PQ (some (.int (J (bi (decide (9 ≤ X 0 0 5 ∧ X 0 0 5 ≤ 20)))))) h)
  refine ev_ald0 1 dX11_isWithdrawalDay_0 rfl ?_
  refine ev_getfield 4 13 5 fl_X11_180_13 (tr0 hT) rfl dX11_isWithdrawalDay_1 rfl ?_
  refine tj_bipush 6 dX11_isWithdrawalDay_4 (by decide) rfl ?_
  refine tj_bipush 8 dX11_isWithdrawalDay_6 (by decide) rfl ?_
  refine tc_S3 11 dX11_isWithdrawalDay_8 lks_X11_59 rfl (by first | decide | omega) (Nat.le_of_ble_eq_true rfl) (c_X11_isWithin (by first | exact TR.rng hT _ _ _ | exact R31_of _ | exact bi_R _ | (constructor <;> omega)) (by first | exact TR.rng hT _ _ _ | exact R31_of _ | exact bi_R _ | (constructor <;> omega)) (by first | exact TR.rng hT _ _ _ | exact R31_of _ | exact bi_R _ | (constructor <;> omega))) ?_
  exact tz_ret (by first | rfl | omega | exact bi_dt (by omega) | exact bi_df (by omega) | (skip)) rfl dX11_isWithdrawalDay_11
set_option maxRecDepth 100000 in
set_option maxHeartbeats 4000000 in
theorem c_X11_firstUnmet {g : Gt} {α : AL} {ν : Nat → Nat → Bool} {X : XM} {h : AH} (hT : TR g α ν X h) (hW : WX ν X) {s : Nat} (hs0 : (s : Int) < nS X) : Pr g M_X11_firstUnmet 5 [.ref (α 0 0), .ref (α 4 s)] h (some (.int (J (fu X s)))) := by
  refine pr_of rfl rfl (ls := [some (.ref (α 0 0)), some (.ref (α 4 s)), none, none, none]) rfl (Nat.le_of_ble_eq_true rfl) ?_
  show Ev g M_X11_firstUnmet 5 0 [some (.ref (α 0 0)), some (.ref (α 4 s)), none, none, none] [] h 0 0 (PQ (some (.int (J (fu X s)))) h)
  have q1 := wo_nC hW.1
  have q3 := wo_nS hW.1
  have hs := wx_stu hW hs0
  have hl : s < 17 := by omega
  refine ev_ald0 1 dX11_firstUnmet_0 rfl ?_
  refine ev_ald1 2 dX11_firstUnmet_1 rfl ?_
  refine tc_V1 5 13 dX11_firstUnmet_2 lkv_X11_167 (tr0 hT) rfl rfl (by first | decide | omega) (Nat.le_of_ble_eq_true rfl) (c_X11_truthsFor hT hW (by first | assumption | exact wx_stu hW (by omega)) (by omega)) ?_
  refine ev_lst2 6 dX11_firstUnmet_5 rfl (by decide) rfl ?_
  refine tj_iconst 7 dX11_firstUnmet_6 rfl ?_
  refine ev_ist4 9 dX11_firstUnmet_7 rfl (by decide) rfl ?_
  have lp9 : ∀ (n9 : Nat) (c : Nat) (z4 : Int) , 21 - c < n9 → ((c : Int) ≤ nC X) → (∀ c2 : Nat, c2 < c → unm X s c2 = false) → z4 = (c : Int) → Ev g M_X11_firstUnmet 5 9 [some (.ref (α 0 0)), some (.ref (α 4 s)), some (.long (truS X s)), none, some (.int (J z4))] [] h 0 0 (PQ (some (.int (J (fu X s)))) h) := by
    intro n9
    induction n9 with
    | zero => intro c z4 hm; exact absurd hm (Nat.not_lt_zero _)
    | succ n9 ih9 =>
      intro c z4 hm9 hc hu e4
      subst e4
      refine ev_ild4 11 dX11_firstUnmet_9 rfl ?_
      refine ev_ald0 12 dX11_firstUnmet_11 rfl ?_
      refine ev_getfield 15 13 0 fl_X11_12_13 (tr0 hT) rfl dX11_firstUnmet_12 rfl ?_
      refine tc_V0 18 2 dX11_firstUnmet_15 lkv_X11_70 (tr1_0 hT) rfl rfl (by first | decide | omega) (Nat.le_of_ble_eq_true rfl) (z_C hT hW) ?_
      refine tj_icmp_ge 62 21 dX11_firstUnmet_18 (by decide) rfl (by first | exact TR.rng hT _ _ _ | exact R31_of _ | exact bi_R _ | (constructor <;> omega)) (by first | exact TR.rng hT _ _ _ | exact R31_of _ | exact bi_R _ | (constructor <;> omega)) (fun c18 => ?_) (fun c18 => ?_)
      · skip
        refine tj_iconst 63 dX11_firstUnmet_62 rfl ?_
        exact ev_ireturn (pq_i (by first | rfl | omega | exact bi_dt (by omega) | exact bi_df (by omega) | (exact FU_eq (FU_no (k := c) (by omega) hu) (FU_fu hW.1 s)))) rfl dX11_firstUnmet_63
      · skip
        refine ev_ald1 22 dX11_firstUnmet_21 rfl ?_
        refine ev_getfield 25 10 1 fl_X11_214_10 (tr4 hT (by first | assumption | exact wx_stu hW (by omega) | exact wx_crs hW (by omega) | exact wx_new hW) (by omega)) rfl dX11_firstUnmet_22 rfl ?_
        refine ev_ild4 27 dX11_firstUnmet_25 rfl ?_
        refine tv_zald 28 (tr5 hT (by first | assumption | exact wx_stu hW (by omega) | exact wx_crs hW (by omega) | exact wx_new hW) (by omega)) (c) (by omega) (by omega) (by omega) dX11_firstUnmet_27 rfl ?_
        refine tj_if_eq 56 31 dX11_firstUnmet_28 (by decide) rfl (by first | exact TR.rng hT _ _ _ | exact R31_of _ | exact bi_R _ | (constructor <;> omega)) (fun c28 => ?_) (fun c28 => ?_)
        · skip
          have hu1 : unm X s c = false := by unfold unm tak; rw [c28]; rfl
          refine tj_inc4 59 dX11_firstUnmet_56 rfl (by decide) rfl ?_
          refine ev_goto 9 dX11_firstUnmet_59 (by decide) ?_
          exact ih9 (c + 1) _ (by omega) (by first | omega | assumption | exact un_s hu hu1 | exact fun c2 h2 => absurd h2 (Nat.not_lt_zero c2)) (by first | omega | assumption | exact un_s hu hu1 | exact fun c2 h2 => absurd h2 (Nat.not_lt_zero c2)) (by first | rfl | omega | (omega))
        · skip
          refine ev_ald0 32 dX11_firstUnmet_31 rfl ?_
          refine ev_getfield 35 13 0 fl_X11_12_13 (tr0 hT) rfl dX11_firstUnmet_32 rfl ?_
          refine ev_ild4 37 dX11_firstUnmet_35 rfl ?_
          refine tc_V1 40 2 dX11_firstUnmet_37 lkv_X11_276 (tr1_0 hT) rfl rfl (by first | decide | omega) (Nat.le_of_ble_eq_true rfl) (g_C hT hW (by omega)) ?_
          refine ev_castS 43 dX11_firstUnmet_40 cl_X11_79 (tr12 hT (by first | assumption | exact wx_stu hW (by omega) | exact wx_crs hW (by omega) | exact wx_new hW)) rfl rfl ?_
          refine ev_getfield 46 5 5 fl_X11_175_5 (tr12 hT (by first | assumption | exact wx_stu hW (by omega) | exact wx_crs hW (by omega) | exact wx_new hW)) rfl dX11_firstUnmet_43 rfl ?_
          refine ev_lld2 47 dX11_firstUnmet_46 rfl ?_
          refine tc_S2 50 dX11_firstUnmet_47 lks_X11_171 rfl (by first | decide | omega) (Nat.le_of_ble_eq_true rfl) (isMet_R hW.1 (by omega)) ?_
          refine tb_if_ne 56 53 dX11_firstUnmet_50 (by decide) rfl (fun c50 => ?_) (fun c50 => ?_)
          · skip
            have hu1 : unm X s c = false := by unfold unm; rw [c50]; simp
            refine tj_inc4 59 dX11_firstUnmet_56 rfl (by decide) rfl ?_
            refine ev_goto 9 dX11_firstUnmet_59 (by decide) ?_
            exact ih9 (c + 1) _ (by omega) (by first | omega | assumption | exact un_s hu hu1 | exact fun c2 h2 => absurd h2 (Nat.not_lt_zero c2)) (by first | omega | assumption | exact un_s hu hu1 | exact fun c2 h2 => absurd h2 (Nat.not_lt_zero c2)) (by first | rfl | omega | (omega))
          · skip
            have hu1 : unm X s c = true := by unfold unm tak; rw [c50]; simp [c28]
            refine ev_ild4 55 dX11_firstUnmet_53 rfl ?_
            exact ev_ireturn (pq_i (by first | rfl | omega | exact bi_dt (by omega) | exact bi_df (by omega) | (exact FU_eq (FU_at (by omega) hu1 hu) (FU_fu hW.1 s)))) rfl dX11_firstUnmet_55
  exact lp9 _ (0) _ (Nat.lt_succ_self _) (by first | omega | assumption | exact un_s hu hu1 | exact fun c2 h2 => absurd h2 (Nat.not_lt_zero c2)) (by first | omega | assumption | exact un_s hu hu1 | exact fun c2 h2 => absurd h2 (Nat.not_lt_zero c2)) (by first | rfl | omega | (omega))
set_option maxRecDepth 100000 in
set_option maxHeartbeats 4000000 in
theorem c_X11_endWithOthers {g : Gt} {α : AL} {ν : Nat → Nat → Bool} {X : XM} {h : AH} (hT : TR g α ν X h) (hW : WX ν X) {s : Nat} (hs0 : (s : Int) < nS X) {c : Nat} (hc : (c : Int) < nC X) (htk0 : tak X s c = true) : Mu g α ν M_X11_endWithOthers 6 [.ref (α 0 0), .ref (α 4 s), .int (J (c : Int))] h (none) (fun X' => X' = eO X s (c : Int) ∧ WX ν X') := by
  refine mu_of rfl rfl (ls := [some (.ref (α 0 0)), some (.ref (α 4 s)), some (.int (J (c : Int))), none, none]) rfl (Nat.le_of_ble_eq_true rfl) ?_
  show Ev g M_X11_endWithOthers 6 0 [some (.ref (α 0 0)), some (.ref (α 4 s)), some (.int (J (c : Int))), none, none] [] h 0 0 (UQ g α ν (none) (fun X' => X' = eO X s (c : Int) ∧ WX ν X'))
  have q1 := wo_nC hW.1
  have q3 := wo_nS hW.1
  have hs := wx_stu hW hs0
  have hl : s < 17 := by omega
  refine ev_ild2 1 dX11_endWithOthers_0 rfl ?_
  refine ev_ist3 2 dX11_endWithOthers_1 rfl (by decide) rfl ?_
  refine tj_iconst 3 dX11_endWithOthers_2 rfl ?_
  refine ev_ist4 5 dX11_endWithOthers_3 rfl (by decide) rfl ?_
  have lp5 : ∀ (n5 : Nat) (n : Nat) (z : Int) (z3 : Int) (z4 : Int)  (h : AH) (X2 : XM), 21 - n < n5 → (n ≤ 20) → z3 = z → z4 = (n : Int) → TR g α ν X2 h → (WX ν X2 ∧ X2 0 = X 0 ∧ X2 1 = X 1 ∧ TC X2 s z ∧ eN (20 - n) X2 s z = eO X s (c : Int)) → Ev g M_X11_endWithOthers 6 5 [some (.ref (α 0 0)), some (.ref (α 4 s)), some (.int (J (c : Int))), some (.int (J z3)), some (.int (J z4))] [] h 0 0 (UQ g α ν (none) (fun X' => X' = eO X s (c : Int) ∧ WX ν X')) := by
    intro n5
    induction n5 with
    | zero => intro n z z3 z4 h X2 hm; exact absurd hm (Nat.not_lt_zero _)
    | succ n5 ih5 =>
      intro n z z3 z4 h X2 hm5 hn e3 e4 hT hI
      subst e3
      subst e4
      have hsI : (s : Int) < nS X2 := by unfold nS; rw [hI.2.2.1]; exact hs0
      have qI := wo_nC hI.1.1
      have qz := TC_R hI.1.1 hI.2.2.2.1
      refine ev_ild4 7 dX11_endWithOthers_5 rfl ?_
      refine tj_bipush 9 dX11_endWithOthers_7 (by decide) rfl ?_
      refine tj_icmp_ge 49 12 dX11_endWithOthers_9 (by decide) rfl (by first | exact TR.rng hT _ _ _ | exact R31_of _ | exact bi_R _ | (constructor <;> omega)) (by first | exact TR.rng hT _ _ _ | exact R31_of _ | exact bi_R _ | (constructor <;> omega)) (fun c9 => ?_) (fun c9 => ?_)
      · skip
        have hEnd : X2 = eO X s (c : Int) := by rw [← hI.2.2.2.2, show 20 - n = 0 by omega, eN]
        exact ev_vreturn (uq_v hT (by exact ⟨hEnd, hI.1⟩)) rfl dX11_endWithOthers_49
      · skip
        refine ev_ild3 13 dX11_endWithOthers_12 rfl ?_
        refine tj_iconst 14 dX11_endWithOthers_13 rfl ?_
        refine tj_icmp_eq 49 17 dX11_endWithOthers_14 (by decide) rfl (by first | exact TR.rng hT _ _ _ | exact R31_of _ | exact bi_R _ | (constructor <;> omega)) (by first | exact TR.rng hT _ _ _ | exact R31_of _ | exact bi_R _ | (constructor <;> omega)) (fun c14 => ?_) (fun c14 => ?_)
        · skip
          have hEnd : X2 = eO X s (c : Int) := by rw [← hI.2.2.2.2, c14, eN_0]
          exact ev_vreturn (uq_v hT (by exact ⟨hEnd, hI.1⟩)) rfl dX11_endWithOthers_49
        · skip
          rcases hI.2.2.2.1 with e | ⟨r, e, hr, htk⟩
          · exact absurd e c14
          subst e
          have hr20 : r < 20 := by omega
          refine ev_ald1 18 dX11_endWithOthers_17 rfl ?_
          refine ev_getfield 21 10 1 fl_X11_214_10 (tr4 hT (by first | assumption | exact wx_stu hW (by omega) | exact wx_crs hW (by omega) | exact wx_new hW) (by omega)) rfl dX11_endWithOthers_18 rfl ?_
          refine ev_ild3 22 dX11_endWithOthers_21 rfl ?_
          refine tj_iconst 23 dX11_endWithOthers_22 rfl ?_
          refine tv_zast 24 hT (tv5 hT (by first | assumption | exact wx_stu hW (by omega) | exact wx_crs hW (by omega) | exact wx_new hW) (by omega)) (fun _ => rfl) (r) (by omega) (by omega) (by omega) (by first | omega | exact bi_01 _) dX11_endWithOthers_23 rfl (fun h hT => ?_)
          obtain ⟨X3, hX3⟩ : ∃ Z, Z = xs X2 5 s r 0 := ⟨_, rfl⟩
          rw [← hX3] at hT
          refine ev_ald0 25 dX11_endWithOthers_24 rfl ?_
          refine tc_V0 28 13 dX11_endWithOthers_25 lkv_X11_236 (tr0 hT) rfl rfl (by first | decide | omega) (Nat.le_of_ble_eq_true rfl) (c_X11_isWithdrawalDay hT) ?_
          refine tb_if_eq 37 31 dX11_endWithOthers_28 (by decide) rfl (fun c28 => ?_) (fun c28 => ?_)
          · skip
            have hwd := of_decide_eq_false c28
            rw [hX3, xs_nk (by decide)] at hwd
            obtain ⟨XE, hXE⟩ : ∃ Z, Z = X3 := ⟨_, rfl⟩
            rw [← hXE] at hT
            have hE : XE = en1 X2 s r := by unfold en1; rw [if_neg hwd, hXE, hX3]
            have hWE : WX ν XE := by rw [hE]; exact wx_en1 hI.1 hsI hr htk
            have hsE : (s : Int) < nS XE := by rw [hE, nS_en1]; exact hsI
            have hIE : WX ν XE ∧ XE 0 = X 0 ∧ XE 1 = X 1 ∧ TC XE s (fu XE s) ∧ eN (20 - (n + 1)) XE s (fu XE s) = eO X s (c : Int) := ⟨hWE, by rw [hE, en1_k (by decide) (by decide) (by decide) (by decide)]; exact hI.2.1, by rw [hE, en1_k (by decide) (by decide) (by decide) (by decide)]; exact hI.2.2.1, TC_fu (FU_fu hWE.1 s), by rw [hE, ← hI.2.2.2.2, show 20 - n = (20 - (n + 1)) + 1 by omega, eN, if_neg (by omega), Int.toNat_natCast]⟩
            refine ev_ald0 38 dX11_endWithOthers_37 rfl ?_
            refine ev_ald1 39 dX11_endWithOthers_38 rfl ?_
            refine tc_V1 42 13 dX11_endWithOthers_39 lkv_X11_446 (tr0 hT) rfl rfl (by first | decide | omega) (Nat.le_of_ble_eq_true rfl) (c_X11_firstUnmet hT hWE hsE) ?_
            refine ev_ist3 43 dX11_endWithOthers_42 rfl (by decide) rfl ?_
            refine tj_inc4 46 dX11_endWithOthers_43 rfl (by decide) rfl ?_
            refine ev_goto 5 dX11_endWithOthers_46 (by decide) ?_
            exact ih5 (n + 1) (fu XE s) _ _ _ _ (by omega) (by first | omega | assumption | omega) (by first | rfl | omega | (omega)) (by first | rfl | omega | (omega)) hT (by first | assumption | (first | exact ⟨hW, rfl, rfl, Or.inr ⟨c, rfl, hc, htk0⟩, rfl⟩ | exact hIE))
          · skip
            have hwd := of_decide_eq_true c28
            rw [hX3, xs_nk (by decide)] at hwd
            have ht0 : 0 ≤ X3 9 s r := by rw [hX3, xs_nk (by decide)]; exact (wo_tri hI.1.1 s r hsI (by omega)).1
            refine ev_ald1 32 dX11_endWithOthers_31 rfl ?_
            refine ev_ild3 33 dX11_endWithOthers_32 rfl ?_
            refine tj_iconst 34 dX11_endWithOthers_33 rfl ?_
            refine tmv_V2 37 10 dX11_endWithOthers_34 lkv_X11_422 (tr4 hT (by first | assumption | exact wx_stu hW (by omega) | exact wx_crs hW (by omega) | exact wx_new hW) (by omega)) rfl rfl (by first | decide | omega) (Nat.le_of_ble_eq_true rfl) (c_X8_addAttempt hT hs hl (by omega) (by first | exact TR.rng hT _ _ _ | exact R31_of _ | exact bi_R _ | (constructor <;> omega)) ht0) (fun h X1 hT hP34 => ?_)
            obtain ⟨XE, hXE⟩ : ∃ Z, Z = X1 := ⟨_, rfl⟩
            rw [← hXE] at hT
            have hE : XE = en1 X2 s r := by unfold en1; rw [if_pos hwd, hXE, hP34, hX3]
            have hWE : WX ν XE := by rw [hE]; exact wx_en1 hI.1 hsI hr htk
            have hsE : (s : Int) < nS XE := by rw [hE, nS_en1]; exact hsI
            have hIE : WX ν XE ∧ XE 0 = X 0 ∧ XE 1 = X 1 ∧ TC XE s (fu XE s) ∧ eN (20 - (n + 1)) XE s (fu XE s) = eO X s (c : Int) := ⟨hWE, by rw [hE, en1_k (by decide) (by decide) (by decide) (by decide)]; exact hI.2.1, by rw [hE, en1_k (by decide) (by decide) (by decide) (by decide)]; exact hI.2.2.1, TC_fu (FU_fu hWE.1 s), by rw [hE, ← hI.2.2.2.2, show 20 - n = (20 - (n + 1)) + 1 by omega, eN, if_neg (by omega), Int.toNat_natCast]⟩
            refine ev_ald0 38 dX11_endWithOthers_37 rfl ?_
            refine ev_ald1 39 dX11_endWithOthers_38 rfl ?_
            refine tc_V1 42 13 dX11_endWithOthers_39 lkv_X11_446 (tr0 hT) rfl rfl (by first | decide | omega) (Nat.le_of_ble_eq_true rfl) (c_X11_firstUnmet hT hWE hsE) ?_
            refine ev_ist3 43 dX11_endWithOthers_42 rfl (by decide) rfl ?_
            refine tj_inc4 46 dX11_endWithOthers_43 rfl (by decide) rfl ?_
            refine ev_goto 5 dX11_endWithOthers_46 (by decide) ?_
            exact ih5 (n + 1) (fu XE s) _ _ _ _ (by omega) (by first | omega | assumption | omega) (by first | rfl | omega | (omega)) (by first | rfl | omega | (omega)) hT (by first | assumption | (first | exact ⟨hW, rfl, rfl, Or.inr ⟨c, rfl, hc, htk0⟩, rfl⟩ | exact hIE))
  exact lp5 _ (0) ((c : Int)) _ _ _ _ (Nat.lt_succ_self _) (by first | omega | assumption | omega) (by first | rfl | omega | (omega)) (by first | rfl | omega | (omega)) hT (by first | assumption | (first | exact ⟨hW, rfl, rfl, Or.inr ⟨c, rfl, hc, htk0⟩, rfl⟩ | exact hIE))
theorem wx_lvp {ν : Nat → Nat → Bool} {X : XM} (hW : WX ν X) {c s : Nat} (hc : (c : Int) < nC X) (hp : place X c s ≠ -1) : WX ν (lv X c (place X c s).toNat) := by
  have q5 := wo_wN hW.1 c hc
  have q6 := place_R hW.1 hc s
  have q7 := plc_R X c s (X 1 (4 + c) 2).toNat
  have hk : ((place X c s).toNat : Int) < X 1 (4 + c) 2 := by have := q7.2; unfold place at *; omega
  exact ⟨wo_lv hW.1 hc hk, wv_lv hW hc hk⟩
set_option maxRecDepth 100000 in
set_option maxHeartbeats 4000000 in
theorem c_X11_drop_okt {g : Gt} {α : AL} {ν : Nat → Nat → Bool} {X : XM} {h : AH} (hT : TR g α ν X h) (hW : WX ν X) {s : Nat} (hs0 : (s : Int) < nS X) {c : Nat} (hc : (c : Int) < nC X) (htk : tak X s c = true) (hd : X 0 0 5 ≤ 20) : Mu g α ν M_X11_drop 28 [.ref (α 0 0), .int (J (s : Int)), .int (J (c : Int))] h (some (.int (J (if 9 ≤ X 0 0 5 then 119 else 100)))) (fun X' => X' = gv (eO X s (c : Int)) ∧ WX ν X') := by
  refine mu_of rfl rfl (ls := [some (.ref (α 0 0)), some (.int (J (s : Int))), some (.int (J (c : Int))), none, none, none]) rfl (Nat.le_of_ble_eq_true rfl) ?_
  show Ev g M_X11_drop 28 0 [some (.ref (α 0 0)), some (.int (J (s : Int))), some (.int (J (c : Int))), none, none, none] [] h 0 0 (UQ g α ν (some (.int (J (if 9 ≤ X 0 0 5 then 119 else 100)))) (fun X' => X' = gv (eO X s (c : Int)) ∧ WX ν X'))
  have q1 := wo_nC hW.1
  have q3 := wo_nS hW.1
  have hs := wx_stu hW hs0
  have hl : s < 17 := by omega
  have wt := wo_t01 hW.1 s c (by omega)
  have ht2 : X 5 s c ≠ 0 := of_decide_eq_true htk
  refine ev_ald0 1 dX11_drop_0 rfl ?_
  refine ev_ild1 2 dX11_drop_1 rfl ?_
  refine tc_V1 5 13 dX11_drop_2 lkv_X11_93 (tr0 hT) rfl rfl (by first | decide | omega) (Nat.le_of_ble_eq_true rfl) (c_X11_studentAt_ok hT hW (by omega)) ?_
  refine ev_ast3 6 dX11_drop_5 rfl (by decide) rfl ?_
  refine ev_ald0 7 dX11_drop_6 rfl ?_
  refine ev_ild2 8 dX11_drop_7 rfl ?_
  refine tc_V1 11 13 dX11_drop_8 lkv_X11_104 (tr0 hT) rfl rfl (by first | decide | omega) (Nat.le_of_ble_eq_true rfl) (c_X11_courseAt_ok hT hW (by omega)) ?_
  refine ev_ast4 13 dX11_drop_11 rfl (by decide) rfl ?_
  refine ev_ald3 14 dX11_drop_13 rfl ?_
  refine ev_getfield 17 10 1 fl_X11_214_10 (tr4 hT (by first | assumption | exact wx_stu hW (by omega) | exact wx_crs hW (by omega) | exact wx_new hW) (by omega)) rfl dX11_drop_14 rfl ?_
  refine ev_ild2 18 dX11_drop_17 rfl ?_
  refine tv_zald 19 (tr5 hT (by first | assumption | exact wx_stu hW (by omega) | exact wx_crs hW (by omega) | exact wx_new hW) (by omega)) (c) (by omega) (by omega) (by omega) dX11_drop_18 rfl ?_
  refine ev_ist5 21 dX11_drop_19 rfl (by decide) rfl ?_
  refine ev_ild5 23 dX11_drop_21 rfl ?_
  refine tj_if_ne 46 26 dX11_drop_23 (by decide) rfl (by first | exact TR.rng hT _ _ _ | exact R31_of _ | exact bi_R _ | (constructor <;> omega)) (fun c23 => ?_) (fun c23 => ?_)
  · skip
    refine ev_ald0 47 dX11_drop_46 rfl ?_
    refine ev_getfield 50 13 5 fl_X11_180_13 (tr0 hT) rfl dX11_drop_47 rfl ?_
    refine tj_bipush 52 dX11_drop_50 (by decide) rfl ?_
    refine tj_icmp_le 65 55 dX11_drop_52 (by decide) rfl (by first | exact TR.rng hT _ _ _ | exact R31_of _ | exact bi_R _ | (constructor <;> omega)) (by first | exact TR.rng hT _ _ _ | exact R31_of _ | exact bi_R _ | (constructor <;> omega)) (fun c52 => ?_) (fun c52 => ?_)
    · skip
      refine ev_ild5 67 dX11_drop_65 rfl ?_
      refine tj_if_eq 79 70 dX11_drop_67 (by decide) rfl (by first | exact TR.rng hT _ _ _ | exact R31_of _ | exact bi_R _ | (constructor <;> omega)) (fun c67 => ?_) (fun c67 => ?_)
      · exact False.elim (by omega)
      · skip
        refine ev_ald0 71 dX11_drop_70 rfl ?_
        refine ev_ald3 72 dX11_drop_71 rfl ?_
        refine ev_ild2 73 dX11_drop_72 rfl ?_
        refine tmv_V2 76 13 dX11_drop_73 lkv_X11_228 (tr0 hT) rfl rfl (by first | decide | omega) (Nat.le_of_ble_eq_true rfl) (c_X11_endWithOthers hT hW hs0 hc htk) (fun h X1 hT hP73 => ?_)
        have hW0 := hW
        have hPe := hP73.1
        have hW := hP73.2
        refine ev_goto 85 dX11_drop_76 (by decide) ?_
        refine ev_ald0 86 dX11_drop_85 rfl ?_
        refine tmv_V0 89 13 dX11_drop_86 lkv_X11_101 (tr0 hT) rfl rfl (by first | decide | omega) (Nat.le_of_ble_eq_true rfl) (c_X11_giveOutSeats hT hW) (fun h X1 hT hP86 => ?_)
        have ed : X1 0 0 5 = X 0 0 5 := by rw [hP86.1, gv_k (by decide) (by decide) (by decide), hPe, eO, eN_k (by decide) (by decide) (by decide) (by decide)]
        refine ev_ild5 91 dX11_drop_89 rfl ?_
        refine tj_if_ne 97 94 dX11_drop_91 (by decide) rfl (by first | exact TR.rng hT _ _ _ | exact R31_of _ | exact bi_R _ | (constructor <;> omega)) (fun c91 => ?_) (fun c91 => ?_)
        · skip
          refine ev_ald0 98 dX11_drop_97 rfl ?_
          refine tc_V0 101 13 dX11_drop_98 lkv_X11_236 (tr0 hT) rfl rfl (by first | decide | omega) (Nat.le_of_ble_eq_true rfl) (c_X11_isWithdrawalDay hT) ?_
          refine tb_if_eq 109 104 dX11_drop_101 (by decide) rfl (fun c101 => ?_) (fun c101 => ?_)
          · skip
            have hwd := of_decide_eq_false c101
            refine tj_bipush 111 dX11_drop_109 (by decide) rfl ?_
            exact tz_retcU (by first | rfl | omega | exact bi_dt (by omega) | exact bi_df (by omega) | (first | (rw [if_pos (by omega)]; done) | (rw [if_neg (by omega)]; done))) (by first | decide | omega) hT (by exact ⟨by rw [hP86.1, hPe], hP86.2⟩) rfl dX11_drop_111
          · skip
            have hwd := of_decide_eq_true c101
            refine tj_bipush 106 dX11_drop_104 (by decide) rfl ?_
            refine ev_goto 111 dX11_drop_106 (by decide) ?_
            exact tz_retcU (by first | rfl | omega | exact bi_dt (by omega) | exact bi_df (by omega) | (first | (rw [if_pos (by omega)]; done) | (rw [if_neg (by omega)]; done))) (by first | decide | omega) hT (by exact ⟨by rw [hP86.1, hPe], hP86.2⟩) rfl dX11_drop_111
        · exact False.elim (by omega)
    · exact False.elim (by omega)
  · exact False.elim (by omega)
set_option maxRecDepth 100000 in
set_option maxHeartbeats 4000000 in
theorem c_X11_drop_okw {g : Gt} {α : AL} {ν : Nat → Nat → Bool} {X : XM} {h : AH} (hT : TR g α ν X h) (hW : WX ν X) {s : Nat} (hs0 : (s : Int) < nS X) {c : Nat} (hc : (c : Int) < nC X) (htk : tak X s c = false) (hpl : place X c s ≠ -1) (hd : X 0 0 5 ≤ 20) : Mu g α ν M_X11_drop 28 [.ref (α 0 0), .int (J (s : Int)), .int (J (c : Int))] h (some (.int (J (108)))) (fun X' => X' = gv (lv X c (place X c s).toNat) ∧ WX ν X') := by
  refine mu_of rfl rfl (ls := [some (.ref (α 0 0)), some (.int (J (s : Int))), some (.int (J (c : Int))), none, none, none]) rfl (Nat.le_of_ble_eq_true rfl) ?_
  show Ev g M_X11_drop 28 0 [some (.ref (α 0 0)), some (.int (J (s : Int))), some (.int (J (c : Int))), none, none, none] [] h 0 0 (UQ g α ν (some (.int (J (108)))) (fun X' => X' = gv (lv X c (place X c s).toNat) ∧ WX ν X'))
  have q1 := wo_nC hW.1
  have q3 := wo_nS hW.1
  have hs := wx_stu hW hs0
  have hl : s < 17 := by omega
  have wt := wo_t01 hW.1 s c (by omega)
  have ht2 : X 5 s c = 0 := by simpa using of_decide_eq_false htk
  have wp9 := place_R hW.1 hc s
  refine ev_ald0 1 dX11_drop_0 rfl ?_
  refine ev_ild1 2 dX11_drop_1 rfl ?_
  refine tc_V1 5 13 dX11_drop_2 lkv_X11_93 (tr0 hT) rfl rfl (by first | decide | omega) (Nat.le_of_ble_eq_true rfl) (c_X11_studentAt_ok hT hW (by omega)) ?_
  refine ev_ast3 6 dX11_drop_5 rfl (by decide) rfl ?_
  refine ev_ald0 7 dX11_drop_6 rfl ?_
  refine ev_ild2 8 dX11_drop_7 rfl ?_
  refine tc_V1 11 13 dX11_drop_8 lkv_X11_104 (tr0 hT) rfl rfl (by first | decide | omega) (Nat.le_of_ble_eq_true rfl) (c_X11_courseAt_ok hT hW (by omega)) ?_
  refine ev_ast4 13 dX11_drop_11 rfl (by decide) rfl ?_
  refine ev_ald3 14 dX11_drop_13 rfl ?_
  refine ev_getfield 17 10 1 fl_X11_214_10 (tr4 hT (by first | assumption | exact wx_stu hW (by omega) | exact wx_crs hW (by omega) | exact wx_new hW) (by omega)) rfl dX11_drop_14 rfl ?_
  refine ev_ild2 18 dX11_drop_17 rfl ?_
  refine tv_zald 19 (tr5 hT (by first | assumption | exact wx_stu hW (by omega) | exact wx_crs hW (by omega) | exact wx_new hW) (by omega)) (c) (by omega) (by omega) (by omega) dX11_drop_18 rfl ?_
  refine ev_ist5 21 dX11_drop_19 rfl (by decide) rfl ?_
  refine ev_ild5 23 dX11_drop_21 rfl ?_
  refine tj_if_ne 46 26 dX11_drop_23 (by decide) rfl (by first | exact TR.rng hT _ _ _ | exact R31_of _ | exact bi_R _ | (constructor <;> omega)) (fun c23 => ?_) (fun c23 => ?_)
  · exact False.elim (by omega)
  · skip
    refine ev_ald4 28 dX11_drop_26 rfl ?_
    refine ev_ald3 29 dX11_drop_28 rfl ?_
    refine tc_V1 32 5 dX11_drop_29 lkv_X11_220 (tr12 hT (by first | assumption | exact wx_stu hW (by omega) | exact wx_crs hW (by omega) | exact wx_new hW)) rfl rfl (by first | decide | omega) (Nat.le_of_ble_eq_true rfl) (c_X2_placeFor hT hW (by omega) (by first | assumption | exact wx_stu hW (by omega)) (by omega)) ?_
    refine tj_iconst 33 dX11_drop_32 rfl ?_
    refine tj_icmp_ne 46 36 dX11_drop_33 (by decide) rfl (by first | exact TR.rng hT _ _ _ | exact R31_of _ | exact bi_R _ | (constructor <;> omega)) (by first | exact TR.rng hT _ _ _ | exact R31_of _ | exact bi_R _ | (constructor <;> omega)) (fun c33 => ?_) (fun c33 => ?_)
    · skip
      refine ev_ald0 47 dX11_drop_46 rfl ?_
      refine ev_getfield 50 13 5 fl_X11_180_13 (tr0 hT) rfl dX11_drop_47 rfl ?_
      refine tj_bipush 52 dX11_drop_50 (by decide) rfl ?_
      refine tj_icmp_le 65 55 dX11_drop_52 (by decide) rfl (by first | exact TR.rng hT _ _ _ | exact R31_of _ | exact bi_R _ | (constructor <;> omega)) (by first | exact TR.rng hT _ _ _ | exact R31_of _ | exact bi_R _ | (constructor <;> omega)) (fun c52 => ?_) (fun c52 => ?_)
      · skip
        refine ev_ild5 67 dX11_drop_65 rfl ?_
        refine tj_if_eq 79 70 dX11_drop_67 (by decide) rfl (by first | exact TR.rng hT _ _ _ | exact R31_of _ | exact bi_R _ | (constructor <;> omega)) (fun c67 => ?_) (fun c67 => ?_)
        · skip
          refine ev_ald4 81 dX11_drop_79 rfl ?_
          refine ev_ald3 82 dX11_drop_81 rfl ?_
          refine tmv_V1 85 5 dX11_drop_82 lkv_X11_232 (tr12 hT (by first | assumption | exact wx_stu hW (by omega) | exact wx_crs hW (by omega) | exact wx_new hW)) rfl rfl (by first | decide | omega) (Nat.le_of_ble_eq_true rfl) (c_X2_stopWaiting hT hW (by omega) hs hl) (fun h X1 hT hP82 => ?_)
          rw [if_neg hpl] at hP82
          have hW0 := hW
          have hW : WX ν X1 := by rw [hP82]; exact wx_lvp hW0 hc hpl
          refine ev_ald0 86 dX11_drop_85 rfl ?_
          refine tmv_V0 89 13 dX11_drop_86 lkv_X11_101 (tr0 hT) rfl rfl (by first | decide | omega) (Nat.le_of_ble_eq_true rfl) (c_X11_giveOutSeats hT hW) (fun h X1 hT hP86 => ?_)
          refine ev_ild5 91 dX11_drop_89 rfl ?_
          refine tj_if_ne 97 94 dX11_drop_91 (by decide) rfl (by first | exact TR.rng hT _ _ _ | exact R31_of _ | exact bi_R _ | (constructor <;> omega)) (fun c91 => ?_) (fun c91 => ?_)
          · exact False.elim (by omega)
          · skip
            refine tj_bipush 96 dX11_drop_94 (by decide) rfl ?_
            exact tz_retcU (by first | rfl | omega | exact bi_dt (by omega) | exact bi_df (by omega) | (skip)) (by first | decide | omega) hT (by exact ⟨by rw [hP86.1, hP82], hP86.2⟩) rfl dX11_drop_96
        · exact False.elim (by omega)
      · exact False.elim (by omega)
    · exact False.elim (by omega)
/-- who waits leaves the list -/
def sw (X : XM) (c s : Nat) : XM := if place X c s = -1 then X else lv X c (place X c s).toNat
