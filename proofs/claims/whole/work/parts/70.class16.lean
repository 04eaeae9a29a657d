/-! THE CLASS: courses end, drops, swaps -/
section RU8
variable {g : Gt} {α : AL} {ν : Nat → Nat → Bool} {X : XM} {M M2 : Mt} {d d1 pc : Nat} {ls : List (Option Value)} {st : List Value} {h : AH} {mc ms : Nat} {Q : RT → AH → Prop}
/-- arraycopy of numbers or booleans, from the beginning of one to the beginning of the other -/
theorem tv_copyA {index k1 i1 k2 i2 ki len : Nat} {z0 z1 z : Int} {ty : FieldType} (n m : Nat) (hT : TR g α ν X h) (hv1 : vk ν k1 i1 = true) (hv2 : vk ν k2 i2 = true) (hk1 : ∀ x, cellK g α k1 i1 x = .inl (ki, len, .inl (fun j => J (x j)))) (hk2 : ∀ x, cellK g α k2 i2 x = .inl (ki, len, .inl (fun j => J (x j)))) (h91 : k1 ≠ 91) (h0 : z0 = 0) (h1 : z1 = 0) (hz : z = (m : Int)) (hm : m ≤ len) (hl31 : len < 2147483648) (hki : (gT g)[ki]? = some (gA g ki, ty)) (hprim : refKind ty = false) (hfit : ∀ i, i < m → fits ty (.int (J (X k1 i1 i))) = true)
    (hd : decode (mC M) pc = .ok (.invokestatic index, 3)) (hl : Cond.methodLink (mY M).cls index arraycopyName ∈ lw_tbl) (hdd : 4 ≤ d) (hcat : (st.map fun v => v.category).sum ≤ 8) (hn : pc + 3 = n)
    (kk : ∀ h', TR g α ν (xw X k2 i2 (fun j => if j < m then X k1 i1 j else X k2 i2 j)) h' → Ev g M d n ls st h' mc ms Q) : Ev g M d pc ls (.int (J z) :: .int (J z1) :: .ref (α k2 i2) :: .int (J z0) :: .ref (α k1 i1) :: st) h mc ms Q := by
  subst h0 h1 hz
  obtain ⟨a1, b1⟩ := hT.1 k1 i1 hv1
  obtain ⟨a2, b2⟩ := hT.1 k2 i2 hv2
  rw [hk1] at a1
  rw [hk2] at a2
  have c0 : (J 0).toNatClampNeg = 0 := J_clampN (j := 0) (by omega)
  have c1 : (J (m : Int)).toNatClampNeg = m := J_clampN (by omega)
  have n0 : ¬ J 0 < 0 := by rw [J_lt0 R31_0]; omega
  have n1 : ¬ J (m : Int) < 0 := by rw [J_lt0 ⟨by omega, by omega⟩]; omega
  refine ev_copyI n hd hl acw hki hprim a1 a2 b1 b2 n0 n0 n1 (by rw [c0, c1]; omega) (by rw [c0, c1]; omega) (fun i hi => by rw [c0, Nat.zero_add]; rw [c1] at hi; exact hfit i hi) hdd hcat hn ?_
  refine kk _ (hT.setx hv2 _ (fun h j => ?_) ?_)
  · by_cases q : j < m
    · simp only [q, if_true]; exact hT.rng _ _ _ h91
    · simp only [q, if_false]; exact hT.rng _ _ _ h
  · rw [hk2, c0, c1]
    refine congrArg (fun f => (Sum.inl (ki, len, Sum.inl f) : AC)) (funext fun j => ?_)
    unfold va_cpy
    by_cases q : j < m
    · rw [if_pos ⟨Nat.zero_le _, by omega⟩, if_pos q, Nat.zero_add, Nat.sub_zero]
    · rw [if_neg (by omega), if_neg q]
end RU8
theorem un_s {p : Nat → Bool} {c : Nat} (h : ∀ c2, c2 < c → p c2 = false) (hc : p c = false) : ∀ c2, c2 < c + 1 → p c2 = false := fun c2 h2 => by
  by_cases e : c2 = c
  · rw [e]; exact hc
  · exact h c2 (by omega)
set_option maxRecDepth 100000 in
set_option maxHeartbeats 4000000 in
theorem c_X11_isWithdrawalDay {g : Gt} {α : AL} {ν : Nat → Nat → Bool} {X : XM} {h : AH} (hT : TR g α ν X h) : Pr g M_X11_isWithdrawalDay 1 [.ref (α 0 0)] h (some (.int (J (bi (decide (9 ≤ X 0 0 5 ∧ X 0 0 5 ≤ 20)))))) := by
  refine pr_of rfl rfl (ls := [some (.ref (α 0 0))]) rfl (Nat.le_of_ble_eq_true rfl) ?_
  show Ev g M_X11_isWithdrawalDay 1 0 [some (.ref (α 0 0))] [] h 0 0 (PQ (some (.int (J (bi (decide (9 ≤ X 0 0 5 ∧ X 0 0 5 ≤ 20)))))) h)
  refine ev_ald0 1 dX11_isWithdrawalDay_0 rfl ?_
  refine ev_getfield 4 13 5 fl_X11_180_13 (tr0 hT) rfl dX11_isWithdrawalDay_1 rfl ?_
  refine tj_bipush 6 dX11_isWithdrawalDay_4 (by decide) rfl ?_
  refine tj_bipush 8 dX11_isWithdrawalDay_6 (by decide) rfl ?_
  refine tc_S3 11 dX11_isWithdrawalDay_8 lks_X11_59 rfl (by first | decide | omega) (Nat.le_of_ble_eq_true rfl) (c_X11_isWithin (by first | exact TR.rng hT _ _ _ | exact R31_of _ | exact bi_R _ | (constructor <;> omega)) (by first | exact TR.rng hT _ _ _ | exact R31_of _ | exact bi_R _ | (constructor <;> omega)) (by first | exact TR.rng hT _ _ _ | exact R31_of _ | exact bi_R _ | (constructor <;> omega))) ?_
  exact tz_ret (by first | rfl | omega | exact bi_dt (by omega) | exact bi_df (by omega) | (skip)) rfl dX11_isWithdrawalDay_11
set_option maxRecDepth 100000 in
set_option maxHeartbeats 4000000 in
theorem c_X11_firstUnmet {g : Gt} {α : AL} {ν : Nat → Nat → Bool} {X : XM} {h : AH} (hT : TR g α ν X h) (hW : WX ν X) {s : Nat} (hs0 : (s : Int) < nS X) : Pr g M_X11_firstUnmet 5 [.ref (α 0 0), .ref (α 4 s)] h (some (.int (J (fu X s)))) := by
  refine pr_of rfl rfl (ls := [some (.ref (α 0 0)), some (.ref (α 4 s)), none, none, none]) rfl (Nat.le_of_ble_eq_true rfl) ?_
  show Ev g M_X11_firstUnmet 5 0 [some (.ref (α 0 0)), some (.ref (α 4 s)), none, none, none] [] h 0 0 (PQ (some (.int (J (fu X s)))) h)
  have q1 := wo_nC hW.1
  have q3 := wo_nS hW.1
  have hs := wx_stu hW hs0
  have hl : s < 17 := by omega
  refine ev_ald0 1 dX11_firstUnmet_0 rfl ?_
  refine ev_ald1 2 dX11_firstUnmet_1 rfl ?_
  refine tc_V1 5 13 dX11_firstUnmet_2 lkv_X11_167 (tr0 hT) rfl rfl (by first | decide | omega) (Nat.le_of_ble_eq_true rfl) (c_X11_truthsFor hT hW (by first | assumption | exact wx_stu hW (by omega)) (by omega)) ?_
  refine ev_lst2 6 dX11_firstUnmet_5 rfl (by decide) rfl ?_
  refine tj_iconst 7 dX11_firstUnmet_6 rfl ?_
  refine ev_ist4 9 dX11_firstUnmet_7 rfl (by decide) rfl ?_
  have lp9 : ∀ (n9 : Nat) (c : Nat) (z4 : Int) , 21 - c < n9 → ((c : Int) ≤ nC X) → (∀ c2 : Nat, c2 < c → unm X s c2 = false) → z4 = (c : Int) → Ev g M_X11_firstUnmet 5 9 [some (.ref (α 0 0)), some (.ref (α 4 s)), some (.long (truS X s)), none, some (.int (J z4))] [] h 0 0 (PQ (some (.int (J (fu X s)))) h) := by
    intro n9
    induction n9 with
    | zero => intro c z4 hm; exact absurd hm (Nat.not_lt_zero _)
    | succ n9 ih9 =>
      intro c z4 hm9 hc hu e4
      subst e4
      refine ev_ild4 11 dX11_firstUnmet_9 rfl ?_
      refine ev_ald0 12 dX11_firstUnmet_11 rfl ?_
      refine ev_getfield 15 13 0 fl_X11_12_13 (tr0 hT) rfl dX11_firstUnmet_12 rfl ?_
      refine tc_V0 18 2 dX11_firstUnmet_15 lkv_X11_70 (tr1_0 hT) rfl rfl (by first | decide | omega) (Nat.le_of_ble_eq_true rfl) (z_C hT hW) ?_
      refine tj_icmp_ge 62 21 dX11_firstUnmet_18 (by decide) rfl (by first | exact TR.rng hT _ _ _ | exact R31_of _ | exact bi_R _ | (constructor <;> omega)) (by first | exact TR.rng hT _ _ _ | exact R31_of _ | exact bi_R _ | (constructor <;> omega)) (fun c18 => ?_) (fun c18 => ?_)
      · skip
        refine tj_iconst 63 dX11_firstUnmet_62 rfl ?_
        exact ev_ireturn (pq_i (by first | rfl | omega | exact bi_dt (by omega) | exact bi_df (by omega) | (exact FU_eq (FU_no (k := c) (by omega) hu) (FU_fu hW.1 s)))) rfl dX11_firstUnmet_63
      · skip
        refine ev_ald1 22 dX11_firstUnmet_21 rfl ?_
        refine ev_getfield 25 10 1 fl_X11_214_10 (tr4 hT (by first | assumption | exact wx_stu hW (by omega) | exact wx_crs hW (by omega) | exact wx_new hW) (by omega)) rfl dX11_firstUnmet_22 rfl ?_
        refine ev_ild4 27 dX11_firstUnmet_25 rfl ?_
        refine tv_zald 28 (tr5 hT (by first | assumption | exact wx_stu hW (by omega) | exact wx_crs hW (by omega) | exact wx_new hW) (by omega)) (c) (by omega) (by omega) (by omega) dX11_firstUnmet_27 rfl ?_
        refine tj_if_eq 56 31 dX11_firstUnmet_28 (by decide) rfl (by first | exact TR.rng hT _ _ _ | exact R31_of _ | exact bi_R _ | (constructor <;> omega)) (fun c28 => ?_) (fun c28 => ?_)
        · skip
          have hu1 : unm X s c = false := by unfold unm tak; rw [c28]; rfl
          refine tj_inc4 59 dX11_firstUnmet_56 rfl (by decide) rfl ?_
          refine ev_goto 9 dX11_firstUnmet_59 (by decide) ?_
          exact ih9 (c + 1) _ (by omega) (by first | omega | assumption | exact un_s hu hu1 | exact fun c2 h2 => absurd h2 (Nat.not_lt_zero c2)) (by first | omega | assumption | exact un_s hu hu1 | exact fun c2 h2 => absurd h2 (Nat.not_lt_zero c2)) (by first | rfl | omega | (omega))
        · skip
          refine ev_ald0 32 dX11_firstUnmet_31 rfl ?_
          refine ev_getfield 35 13 0 fl_X11_12_13 (tr0 hT) rfl dX11_firstUnmet_32 rfl ?_
          refine ev_ild4 37 dX11_firstUnmet_35 rfl ?_
          refine tc_V1 40 2 dX11_firstUnmet_37 lkv_X11_276 (tr1_0 hT) rfl rfl (by first | decide | omega) (Nat.le_of_ble_eq_true rfl) (g_C hT hW (by omega)) ?_
          refine ev_castS 43 dX11_firstUnmet_40 cl_X11_79 (tr12 hT (by first | assumption | exact wx_stu hW (by omega) | exact wx_crs hW (by omega) | exact wx_new hW)) rfl rfl ?_
          refine ev_getfield 46 5 5 fl_X11_175_5 (tr12 hT (by first | assumption | exact wx_stu hW (by omega) | exact wx_crs hW (by omega) | exact wx_new hW)) rfl dX11_firstUnmet_43 rfl ?_
          refine ev_lld2 47 dX11_firstUnmet_46 rfl ?_
          refine tc_S2 50 dX11_firstUnmet_47 lks_X11_171 rfl (by first | decide | omega) (Nat.le_of_ble_eq_true rfl) (isMet_R hW.1 (by omega)) ?_
          refine tb_if_ne 56 53 dX11_firstUnmet_50 (by decide) rfl (fun c50 => ?_) (fun c50 => ?_)
          · skip
            have hu1 : unm X s c = false := by unfold unm; rw [c50]; simp
            refine tj_inc4 59 dX11_firstUnmet_56 rfl (by decide) rfl ?_
            refine ev_goto 9 dX11_firstUnmet_59 (by decide) ?_
            exact ih9 (c + 1) _ (by omega) (by first | omega | assumption | exact un_s hu hu1 | exact fun c2 h2 => absurd h2 (Nat.not_lt_zero c2)) (by first | omega | assumption | exact un_s hu hu1 | exact fun c2 h2 => absurd h2 (Nat.not_lt_zero c2)) (by first | rfl | omega | (omega))
          · skip
            have hu1 : unm X s c = true := by unfold unm tak; rw [c50]; simp [c28]
            refine ev_ild4 55 dX11_firstUnmet_53 rfl ?_
            exact ev_ireturn (pq_i (by first | rfl | omega | exact bi_dt (by omega) | exact bi_df (by omega) | (exact FU_eq (FU_at (by omega) hu1 hu) (FU_fu hW.1 s)))) rfl dX11_firstUnmet_55
  exact lp9 _ (0) _ (Nat.lt_succ_self _) (by first | omega | assumption | exact un_s hu hu1 | exact fun c2 h2 => absurd h2 (Nat.not_lt_zero c2)) (by first | omega | assumption | exact un_s hu hu1 | exact fun c2 h2 => absurd h2 (Nat.not_lt_zero c2)) (by first | rfl | omega | (omega))
set_option maxRecDepth 100000 in
set_option maxHeartbeats 4000000 in
theorem c_X11_endWithOthers {g : Gt} {α : AL} {ν : Nat → Nat → Bool} {X : XM} {h : AH} (hT : TR g α ν X h) (hW : WX ν X) {s : Nat} (hs0 : (s : Int) < nS X) {c : Nat} (hc : (c : Int) < nC X) (htk0 : tak X s c = true) : Mu g α ν M_X11_endWithOthers 6 [.ref (α 0 0), .ref (α 4 s), .int (J (c : Int))] h (none) (fun X' => X' = eO X s (c : Int) ∧ WX ν X') := by
  refine mu_of rfl rfl (ls := [some (.ref (α 0 0)), some (.ref (α 4 s)), some (.int (J (c : Int))), none, none]) rfl (Nat.le_of_ble_eq_true rfl) ?_
  show Ev g M_X11_endWithOthers 6 0 [some (.ref (α 0 0)), some (.ref (α 4 s)), some (.int (J (c : Int))), none, none] [] h 0 0 (UQ g α ν (none) (fun X' => X' = eO X s (c : Int) ∧ WX ν X'))
  have q1 := wo_nC hW.1
  have q3 := wo_nS hW.1
  have hs := wx_stu hW hs0
  have hl : s < 17 := by omega
  refine ev_ild2 1 dX11_endWithOthers_0 rfl ?_
  refine ev_ist3 2 dX11_endWithOthers_1 rfl (by decide) rfl ?_
  refine tj_iconst 3 dX11_endWithOthers_2 rfl ?_
  refine ev_ist4 5 dX11_endWithOthers_3 rfl (by decide) rfl ?_
  have lp5 : ∀ (n5 : Nat) (n : Nat) (z : Int) (z3 : Int) (z4 : Int)  (h : AH) (X2 : XM), 21 - n < n5 → (n ≤ 20) → z3 = z → z4 = (n : Int) → TR g α ν X2 h → (WX ν X2 ∧ X2 0 = X 0 ∧ X2 1 = X 1 ∧ TC X2 s z ∧ eN (20 - n) X2 s z = eO X s (c : Int)) → Ev g M_X11_endWithOthers 6 5 [some (.ref (α 0 0)), some (.ref (α 4 s)), some (.int (J (c : Int))), some (.int (J z3)), some (.int (J z4))] [] h 0 0 (UQ g α ν (none) (fun X' => X' = eO X s (c : Int) ∧ WX ν X')) := by
    intro n5
    induction n5 with
    | zero => intro n z z3 z4 h X2 hm; exact absurd hm (Nat.not_lt_zero _)
    | succ n5 ih5 =>
      intro n z z3 z4 h X2 hm5 hn e3 e4 hT hI
      subst e3
      subst e4
      have hsI : (s : Int) < nS X2 := by unfold nS; rw [hI.2.2.1]; exact hs0
      have qI := wo_nC hI.1.1
      have qz := TC_R hI.1.1 hI.2.2.2.1
      refine ev_ild4 7 dX11_endWithOthers_5 rfl ?_
      refine tj_bipush 9 dX11_endWithOthers_7 (by decide) rfl ?_
      refine tj_icmp_ge 49 12 dX11_endWithOthers_9 (by decide) rfl (by first | exact TR.rng hT _ _ _ | exact R31_of _ | exact bi_R _ | (constructor <;> omega)) (by first | exact TR.rng hT _ _ _ | exact R31_of _ | exact bi_R _ | (constructor <;> omega)) (fun c9 => ?_) (fun c9 => ?_)
      · skip
        have hEnd : X2 = eO X s (c : Int) := by rw [← hI.2.2.2.2, show 20 - n = 0 by omega, eN]
        exact ev_vreturn (uq_v hT (by exact ⟨hEnd, hI.1⟩)) rfl dX11_endWithOthers_49
      · skip
        refine ev_ild3 13 dX11_endWithOthers_12 rfl ?_
        refine tj_iconst 14 dX11_endWithOthers_13 rfl ?_
        refine tj_icmp_eq 49 17 dX11_endWithOthers_14 (by decide) rfl (by first | exact TR.rng hT _ _ _ | exact R31_of _ | exact bi_R _ | (constructor <;> omega)) (by first | exact TR.rng hT _ _ _ | exact R31_of _ | exact bi_R _ | (constructor <;> omega)) (fun c14 => ?_) (fun c14 => ?_)
        · skip
          have hEnd : X2 = eO X s (c : Int) := by rw [← hI.2.2.2.2, c14, eN_0]
          exact ev_vreturn (uq_v hT (by exact ⟨hEnd, hI.1⟩)) rfl dX11_endWithOthers_49
        · skip
          rcases hI.2.2.2.1 with e | ⟨r, e, hr, htk⟩
          · exact absurd e c14
          subst e
          have hr20 : r < 20 := by omega
          refine ev_ald1 18 dX11_endWithOthers_17 rfl ?_
          refine ev_getfield 21 10 1 fl_X11_214_10 (tr4 hT (by first | assumption | exact wx_stu hW (by omega) | exact wx_crs hW (by omega) | exact wx_new hW) (by omega)) rfl dX11_endWithOthers_18 rfl ?_
          refine ev_ild3 22 dX11_endWithOthers_21 rfl ?_
          refine tj_iconst 23 dX11_endWithOthers_22 rfl ?_
          refine tv_zast 24 hT (tv5 hT (by first | assumption | exact wx_stu hW (by omega) | exact wx_crs hW (by omega) | exact wx_new hW) (by omega)) (fun _ => rfl) (r) (by omega) (by omega) (by omega) (by first | omega | exact bi_01 _) dX11_endWithOthers_23 rfl (fun h hT => ?_)
          obtain ⟨X3, hX3⟩ : ∃ Z, Z = xs X2 5 s r 0 := ⟨_, rfl⟩
          rw [← hX3] at hT
          refine ev_ald0 25 dX11_endWithOthers_24 rfl ?_
          refine tc_V0 28 13 dX11_endWithOthers_25 lkv_X11_236 (tr0 hT) rfl rfl (by first | decide | omega) (Nat.le_of_ble_eq_true rfl) (c_X11_isWithdrawalDay hT) ?_
          refine tb_if_eq 37 31 dX11_endWithOthers_28 (by decide) rfl (fun c28 => ?_) (fun c28 => ?_)
          · skip
            have hwd := of_decide_eq_false c28
            rw [hX3, xs_nk (by decide)] at hwd
            obtain ⟨XE, hXE⟩ : ∃ Z, Z = X3 := ⟨_, rfl⟩
            rw [← hXE] at hT
            have hE : XE = en1 X2 s r := by unfold en1; rw [if_neg hwd, hXE, hX3]
            have hWE : WX ν XE := by rw [hE]; exact wx_en1 hI.1 hsI hr htk
            have hsE : (s : Int) < nS XE := by rw [hE, nS_en1]; exact hsI
            have hIE : WX ν XE ∧ XE 0 = X 0 ∧ XE 1 = X 1 ∧ TC XE s (fu XE s) ∧ eN (20 - (n + 1)) XE s (fu XE s) = eO X s (c : Int) := ⟨hWE, by rw [hE, en1_k (by decide) (by decide) (by decide) (by decide)]; exact hI.2.1, by rw [hE, en1_k (by decide) (by decide) (by decide) (by decide)]; exact hI.2.2.1, TC_fu (FU_fu hWE.1 s), by rw [hE, ← hI.2.2.2.2, show 20 - n = (20 - (n + 1)) + 1 by omega, eN, if_neg (by omega), Int.toNat_natCast]⟩
            refine ev_ald0 38 dX11_endWithOthers_37 rfl ?_
            refine ev_ald1 39 dX11_endWithOthers_38 rfl ?_
            refine tc_V1 42 13 dX11_endWithOthers_39 lkv_X11_446 (tr0 hT) rfl rfl (by first | decide | omega) (Nat.le_of_ble_eq_true rfl) (c_X11_firstUnmet hT hWE hsE) ?_
            refine ev_ist3 43 dX11_endWithOthers_42 rfl (by decide) rfl ?_
            refine tj_inc4 46 dX11_endWithOthers_43 rfl (by decide) rfl ?_
            refine ev_goto 5 dX11_endWithOthers_46 (by decide) ?_
            exact ih5 (n + 1) (fu XE s) _ _ _ _ (by omega) (by first | omega | assumption | omega) (by first | rfl | omega | (omega)) (by first | rfl | omega | (omega)) hT (by first | assumption | (first | exact ⟨hW, rfl, rfl, Or.inr ⟨c, rfl, hc, htk0⟩, rfl⟩ | exact hIE))
          · skip
            have hwd := of_decide_eq_true c28
            rw [hX3, xs_nk (by decide)] at hwd
            have ht0 : 0 ≤ X3 9 s r := by rw [hX3, xs_nk (by decide)]; exact (wo_tri hI.1.1 s r hsI (by omega)).1
            refine ev_ald1 32 dX11_endWithOthers_31 rfl ?_
            refine ev_ild3 33 dX11_endWithOthers_32 rfl ?_
            refine tj_iconst 34 dX11_endWithOthers_33 rfl ?_
            refine tmv_V2 37 10 dX11_endWithOthers_34 lkv_X11_422 (tr4 hT (by first | assumption | exact wx_stu hW (by omega) | exact wx_crs hW (by omega) | exact wx_new hW) (by omega)) rfl rfl (by first | decide | omega) (Nat.le_of_ble_eq_true rfl) (c_X8_addAttempt hT hs hl (by omega) (by first | exact TR.rng hT _ _ _ | exact R31_of _ | exact bi_R _ | (constructor <;> omega)) ht0) (fun h X1 hT hP34 => ?_)
            obtain ⟨XE, hXE⟩ : ∃ Z, Z = X1 := ⟨_, rfl⟩
            rw [← hXE] at hT
            have hE : XE = en1 X2 s r := by unfold en1; rw [if_pos hwd, hXE, hP34, hX3]
            have hWE : WX ν XE := by rw [hE]; exact wx_en1 hI.1 hsI hr htk
            have hsE : (s : Int) < nS XE := by rw [hE, nS_en1]; exact hsI
            have hIE : WX ν XE ∧ XE 0 = X 0 ∧ XE 1 = X 1 ∧ TC XE s (fu XE s) ∧ eN (20 - (n + 1)) XE s (fu XE s) = eO X s (c : Int) := ⟨hWE, by rw [hE, en1_k (by decide) (by decide) (by decide) (by decide)]; exact hI.2.1, by rw [hE, en1_k (by decide) (by decide) (by decide) (by decide)]; exact hI.2.2.1, TC_fu (FU_fu hWE.1 s), by rw [hE, ← hI.2.2.2.2, show 20 - n = (20 - (n + 1)) + 1 by omega, eN, if_neg (by omega), Int.toNat_natCast]⟩
            refine ev_ald0 38 dX11_endWithOthers_37 rfl ?_
            refine ev_ald1 39 dX11_endWithOthers_38 rfl ?_
            refine tc_V1 42 13 dX11_endWithOthers_39 lkv_X11_446 (tr0 hT) rfl rfl (by first | decide | omega) (Nat.le_of_ble_eq_true rfl) (c_X11_firstUnmet hT hWE hsE) ?_
            refine ev_ist3 43 dX11_endWithOthers_42 rfl (by decide) rfl ?_
            refine tj_inc4 46 dX11_endWithOthers_43 rfl (by decide) rfl ?_
            refine ev_goto 5 dX11_endWithOthers_46 (by decide) ?_
            exact ih5 (n + 1) (fu XE s) _ _ _ _ (by omega) (by first | omega | assumption | omega) (by first | rfl | omega | (omega)) (by first | rfl | omega | (omega)) hT (by first | assumption | (first | exact ⟨hW, rfl, rfl, Or.inr ⟨c, rfl, hc, htk0⟩, rfl⟩ | exact hIE))
  exact lp5 _ (0) ((c : Int)) _ _ _ _ (Nat.lt_succ_self _) (by first | omega | assumption | omega) (by first | rfl | omega | (omega)) (by first | rfl | omega | (omega)) hT (by first | assumption | (first | exact ⟨hW, rfl, rfl, Or.inr ⟨c, rfl, hc, htk0⟩, rfl⟩ | exact hIE))
theorem wx_lvp {ν : Nat → Nat → Bool} {X : XM} (hW : WX ν X) {c s : Nat} (hc : (c : Int) < nC X) (hp : place X c s ≠ -1) : WX ν (lv X c (place X c s).toNat) := by
  have q5 := wo_wN hW.1 c hc
  have q6 := place_R hW.1 hc s
  have q7 := plc_R X c s (X 1 (4 + c) 2).toNat
  have hk : ((place X c s).toNat : Int) < X 1 (4 + c) 2 := by have := q7.2; unfold place at *; omega
  exact ⟨wo_lv hW.1 hc hk, wv_lv hW hc hk⟩
set_option maxRecDepth 100000 in
set_option maxHeartbeats 4000000 in
theorem c_X11_drop_b1 {g : Gt} {α : AL} {ν : Nat → Nat → Bool} {X : XM} {h : AH} (hT : TR g α ν X h) (hW : WX ν X) {b : Int} (hb : R31 b) (hn : ¬ (0 ≤ b ∧ b < nS X)) {a1 : Int} (ha1 : R31 a1) : Th g M_X11_drop 28 [.ref (α 0 0), .int (J b), .int (J a1)] h "java/lang/IndexOutOfBoundsException" := by
  refine th_of rfl rfl (ls := [some (.ref (α 0 0)), some (.int (J b)), some (.int (J a1)), none, none, none]) rfl (Nat.le_of_ble_eq_true rfl) ?_
  show Ev g M_X11_drop 28 0 [some (.ref (α 0 0)), some (.int (J b)), some (.int (J a1)), none, none, none] [] h 1 6 (TQ "java/lang/IndexOutOfBoundsException" h)
  have q1 := wo_nC hW.1
  have q3 := wo_nS hW.1
  refine ev_ald0 1 dX11_drop_0 rfl ?_
  refine ev_ild1 2 dX11_drop_1 rfl ?_
  exact tx_V1 5 13 dX11_drop_2 lkv_X11_93 (tr0 hT) rfl rfl (by first | decide | omega) (Nat.le_of_ble_eq_true rfl) rfl (by decide) (by decide) (c_X11_studentAt_no hT hW hb hn) ⟨rfl, rfl⟩
set_option maxRecDepth 100000 in
set_option maxHeartbeats 4000000 in
theorem c_X11_drop_b2 {g : Gt} {α : AL} {ν : Nat → Nat → Bool} {X : XM} {h : AH} (hT : TR g α ν X h) (hW : WX ν X) {s : Nat} (hs0 : (s : Int) < nS X) {b : Int} (hb : R31 b) (hn : ¬ (0 ≤ b ∧ b < nC X)) : Th g M_X11_drop 28 [.ref (α 0 0), .int (J (s : Int)), .int (J b)] h "java/lang/IndexOutOfBoundsException" := by
  refine th_of rfl rfl (ls := [some (.ref (α 0 0)), some (.int (J (s : Int))), some (.int (J b)), none, none, none]) rfl (Nat.le_of_ble_eq_true rfl) ?_
  show Ev g M_X11_drop 28 0 [some (.ref (α 0 0)), some (.int (J (s : Int))), some (.int (J b)), none, none, none] [] h 1 6 (TQ "java/lang/IndexOutOfBoundsException" h)
  have q1 := wo_nC hW.1
  have q3 := wo_nS hW.1
  have hs := wx_stu hW hs0
  have hl : s < 17 := by omega
  refine ev_ald0 1 dX11_drop_0 rfl ?_
  refine ev_ild1 2 dX11_drop_1 rfl ?_
  refine tc_V1 5 13 dX11_drop_2 lkv_X11_93 (tr0 hT) rfl rfl (by first | decide | omega) (Nat.le_of_ble_eq_true rfl) (c_X11_studentAt_ok hT hW (by omega)) ?_
  refine ev_ast3 6 dX11_drop_5 rfl (by decide) rfl ?_
  refine ev_ald0 7 dX11_drop_6 rfl ?_
  refine ev_ild2 8 dX11_drop_7 rfl ?_
  exact tx_V1 11 13 dX11_drop_8 lkv_X11_104 (tr0 hT) rfl rfl (by first | decide | omega) (Nat.le_of_ble_eq_true rfl) rfl (by decide) (by decide) (c_X11_courseAt_no hT hW hb hn) ⟨rfl, rfl⟩
set_option maxRecDepth 100000 in
set_option maxHeartbeats 4000000 in
theorem c_X11_drop_x2 {g : Gt} {α : AL} {ν : Nat → Nat → Bool} {X : XM} {h : AH} (hT : TR g α ν X h) (hW : WX ν X) {s : Nat} (hs0 : (s : Int) < nS X) {c : Nat} (hc : (c : Int) < nC X) (htk : tak X s c = false) (hpl : place X c s = -1) : Th g M_X11_drop 28 [.ref (α 0 0), .int (J (s : Int)), .int (J (c : Int))] h "java/util/NoSuchElementException" := by
  refine th_of rfl rfl (ls := [some (.ref (α 0 0)), some (.int (J (s : Int))), some (.int (J (c : Int))), none, none, none]) rfl (Nat.le_of_ble_eq_true rfl) ?_
  show Ev g M_X11_drop 28 0 [some (.ref (α 0 0)), some (.int (J (s : Int))), some (.int (J (c : Int))), none, none, none] [] h 1 6 (TQ "java/util/NoSuchElementException" h)
  have q1 := wo_nC hW.1
  have q3 := wo_nS hW.1
  have hs := wx_stu hW hs0
  have hl : s < 17 := by omega
  have wt := wo_t01 hW.1 s c (by omega)
  have ht2 : X 5 s c = 0 := by simpa using of_decide_eq_false htk
  have wp9 := place_R hW.1 hc s
  refine ev_ald0 1 dX11_drop_0 rfl ?_
  refine ev_ild1 2 dX11_drop_1 rfl ?_
  refine tc_V1 5 13 dX11_drop_2 lkv_X11_93 (tr0 hT) rfl rfl (by first | decide | omega) (Nat.le_of_ble_eq_true rfl) (c_X11_studentAt_ok hT hW (by omega)) ?_
  refine ev_ast3 6 dX11_drop_5 rfl (by decide) rfl ?_
  refine ev_ald0 7 dX11_drop_6 rfl ?_
  refine ev_ild2 8 dX11_drop_7 rfl ?_
  refine tc_V1 11 13 dX11_drop_8 lkv_X11_104 (tr0 hT) rfl rfl (by first | decide | omega) (Nat.le_of_ble_eq_true rfl) (c_X11_courseAt_ok hT hW (by omega)) ?_
  refine ev_ast4 13 dX11_drop_11 rfl (by decide) rfl ?_
  refine ev_ald3 14 dX11_drop_13 rfl ?_
  refine ev_getfield 17 10 1 fl_X11_214_10 (tr4 hT (by first | assumption | exact wx_stu hW (by omega) | exact wx_crs hW (by omega) | exact wx_new hW) (by omega)) rfl dX11_drop_14 rfl ?_
  refine ev_ild2 18 dX11_drop_17 rfl ?_
  refine tv_zald 19 (tr5 hT (by first | assumption | exact wx_stu hW (by omega) | exact wx_crs hW (by omega) | exact wx_new hW) (by omega)) (c) (by omega) (by omega) (by omega) dX11_drop_18 rfl ?_
  refine ev_ist5 21 dX11_drop_19 rfl (by decide) rfl ?_
  refine ev_ild5 23 dX11_drop_21 rfl ?_
  refine tj_if_ne 46 26 dX11_drop_23 (by decide) rfl (by first | exact TR.rng hT _ _ _ | exact R31_of _ | exact bi_R _ | (constructor <;> omega)) (fun c23 => ?_) (fun c23 => ?_)
  · exact False.elim (by omega)
  · skip
    refine ev_ald4 28 dX11_drop_26 rfl ?_
    refine ev_ald3 29 dX11_drop_28 rfl ?_
    refine tc_V1 32 5 dX11_drop_29 lkv_X11_220 (tr12 hT (by first | assumption | exact wx_stu hW (by omega) | exact wx_crs hW (by omega) | exact wx_new hW)) rfl rfl (by first | decide | omega) (Nat.le_of_ble_eq_true rfl) (c_X2_placeFor hT hW (by omega) (by first | assumption | exact wx_stu hW (by omega)) (by omega)) ?_
    refine tj_iconst 33 dX11_drop_32 rfl ?_
    refine tj_icmp_ne 46 36 dX11_drop_33 (by decide) rfl (by first | exact TR.rng hT _ _ _ | exact R31_of _ | exact bi_R _ | (constructor <;> omega)) (by first | exact TR.rng hT _ _ _ | exact R31_of _ | exact bi_R _ | (constructor <;> omega)) (fun c33 => ?_) (fun c33 => ?_)
    · exact False.elim (by omega)
    · skip
      exact ev_throwN tn_X11_209_224_213 rfl ⟨rfl, rfl⟩ (by decide) (Nat.le_of_ble_eq_true rfl) dX11_drop_36 dX11_drop_39 dX11_drop_40 dX11_drop_42 dX11_drop_45 (by decide) (by decide)
set_option maxRecDepth 100000 in
set_option maxHeartbeats 4000000 in
theorem c_X11_drop_x3t {g : Gt} {α : AL} {ν : Nat → Nat → Bool} {X : XM} {h : AH} (hT : TR g α ν X h) (hW : WX ν X) {s : Nat} (hs0 : (s : Int) < nS X) {c : Nat} (hc : (c : Int) < nC X) (htk : tak X s c = true) (hd : 20 < X 0 0 5) : Th g M_X11_drop 28 [.ref (α 0 0), .int (J (s : Int)), .int (J (c : Int))] h "java/lang/IllegalStateException" := by
  refine th_of rfl rfl (ls := [some (.ref (α 0 0)), some (.int (J (s : Int))), some (.int (J (c : Int))), none, none, none]) rfl (Nat.le_of_ble_eq_true rfl) ?_
  show Ev g M_X11_drop 28 0 [some (.ref (α 0 0)), some (.int (J (s : Int))), some (.int (J (c : Int))), none, none, none] [] h 1 6 (TQ "java/lang/IllegalStateException" h)
  have q1 := wo_nC hW.1
  have q3 := wo_nS hW.1
  have hs := wx_stu hW hs0
  have hl : s < 17 := by omega
  have wt := wo_t01 hW.1 s c (by omega)
  have ht2 : X 5 s c ≠ 0 := of_decide_eq_true htk
  refine ev_ald0 1 dX11_drop_0 rfl ?_
  refine ev_ild1 2 dX11_drop_1 rfl ?_
  refine tc_V1 5 13 dX11_drop_2 lkv_X11_93 (tr0 hT) rfl rfl (by first | decide | omega) (Nat.le_of_ble_eq_true rfl) (c_X11_studentAt_ok hT hW (by omega)) ?_
  refine ev_ast3 6 dX11_drop_5 rfl (by decide) rfl ?_
  refine ev_ald0 7 dX11_drop_6 rfl ?_
  refine ev_ild2 8 dX11_drop_7 rfl ?_
  refine tc_V1 11 13 dX11_drop_8 lkv_X11_104 (tr0 hT) rfl rfl (by first | decide | omega) (Nat.le_of_ble_eq_true rfl) (c_X11_courseAt_ok hT hW (by omega)) ?_
  refine ev_ast4 13 dX11_drop_11 rfl (by decide) rfl ?_
  refine ev_ald3 14 dX11_drop_13 rfl ?_
  refine ev_getfield 17 10 1 fl_X11_214_10 (tr4 hT (by first | assumption | exact wx_stu hW (by omega) | exact wx_crs hW (by omega) | exact wx_new hW) (by omega)) rfl dX11_drop_14 rfl ?_
  refine ev_ild2 18 dX11_drop_17 rfl ?_
  refine tv_zald 19 (tr5 hT (by first | assumption | exact wx_stu hW (by omega) | exact wx_crs hW (by omega) | exact wx_new hW) (by omega)) (c) (by omega) (by omega) (by omega) dX11_drop_18 rfl ?_
  refine ev_ist5 21 dX11_drop_19 rfl (by decide) rfl ?_
  refine ev_ild5 23 dX11_drop_21 rfl ?_
  refine tj_if_ne 46 26 dX11_drop_23 (by decide) rfl (by first | exact TR.rng hT _ _ _ | exact R31_of _ | exact bi_R _ | (constructor <;> omega)) (fun c23 => ?_) (fun c23 => ?_)
  · skip
    refine ev_ald0 47 dX11_drop_46 rfl ?_
    refine ev_getfield 50 13 5 fl_X11_180_13 (tr0 hT) rfl dX11_drop_47 rfl ?_
    refine tj_bipush 52 dX11_drop_50 (by decide) rfl ?_
    refine tj_icmp_le 65 55 dX11_drop_52 (by decide) rfl (by first | exact TR.rng hT _ _ _ | exact R31_of _ | exact bi_R _ | (constructor <;> omega)) (by first | exact TR.rng hT _ _ _ | exact R31_of _ | exact bi_R _ | (constructor <;> omega)) (fun c52 => ?_) (fun c52 => ?_)
    · exact False.elim (by omega)
    · skip
      exact ev_throwS th_X11_74_226_78 rfl ⟨rfl, rfl⟩ (by decide) (by decide) dX11_drop_55 dX11_drop_58 dX11_drop_59 dX11_drop_61 dX11_drop_64 (by decide) (by decide)
  · exact False.elim (by omega)
set_option maxRecDepth 100000 in
set_option maxHeartbeats 4000000 in
theorem c_X11_drop_x3w {g : Gt} {α : AL} {ν : Nat → Nat → Bool} {X : XM} {h : AH} (hT : TR g α ν X h) (hW : WX ν X) {s : Nat} (hs0 : (s : Int) < nS X) {c : Nat} (hc : (c : Int) < nC X) (htk : tak X s c = false) (hpl : place X c s ≠ -1) (hd : 20 < X 0 0 5) : Th g M_X11_drop 28 [.ref (α 0 0), .int (J (s : Int)), .int (J (c : Int))] h "java/lang/IllegalStateException" := by
  refine th_of rfl rfl (ls := [some (.ref (α 0 0)), some (.int (J (s : Int))), some (.int (J (c : Int))), none, none, none]) rfl (Nat.le_of_ble_eq_true rfl) ?_
  show Ev g M_X11_drop 28 0 [some (.ref (α 0 0)), some (.int (J (s : Int))), some (.int (J (c : Int))), none, none, none] [] h 1 6 (TQ "java/lang/IllegalStateException" h)
  have q1 := wo_nC hW.1
  have q3 := wo_nS hW.1
  have hs := wx_stu hW hs0
  have hl : s < 17 := by omega
  have wt := wo_t01 hW.1 s c (by omega)
  have ht2 : X 5 s c = 0 := by simpa using of_decide_eq_false htk
  have wp9 := place_R hW.1 hc s
  refine ev_ald0 1 dX11_drop_0 rfl ?_
  refine ev_ild1 2 dX11_drop_1 rfl ?_
  refine tc_V1 5 13 dX11_drop_2 lkv_X11_93 (tr0 hT) rfl rfl (by first | decide | omega) (Nat.le_of_ble_eq_true rfl) (c_X11_studentAt_ok hT hW (by omega)) ?_
  refine ev_ast3 6 dX11_drop_5 rfl (by decide) rfl ?_
  refine ev_ald0 7 dX11_drop_6 rfl ?_
  refine ev_ild2 8 dX11_drop_7 rfl ?_
  refine tc_V1 11 13 dX11_drop_8 lkv_X11_104 (tr0 hT) rfl rfl (by first | decide | omega) (Nat.le_of_ble_eq_true rfl) (c_X11_courseAt_ok hT hW (by omega)) ?_
  refine ev_ast4 13 dX11_drop_11 rfl (by decide) rfl ?_
  refine ev_ald3 14 dX11_drop_13 rfl ?_
  refine ev_getfield 17 10 1 fl_X11_214_10 (tr4 hT (by first | assumption | exact wx_stu hW (by omega) | exact wx_crs hW (by omega) | exact wx_new hW) (by omega)) rfl dX11_drop_14 rfl ?_
  refine ev_ild2 18 dX11_drop_17 rfl ?_
  refine tv_zald 19 (tr5 hT (by first | assumption | exact wx_stu hW (by omega) | exact wx_crs hW (by omega) | exact wx_new hW) (by omega)) (c) (by omega) (by omega) (by omega) dX11_drop_18 rfl ?_
  refine ev_ist5 21 dX11_drop_19 rfl (by decide) rfl ?_
  refine ev_ild5 23 dX11_drop_21 rfl ?_
  refine tj_if_ne 46 26 dX11_drop_23 (by decide) rfl (by first | exact TR.rng hT _ _ _ | exact R31_of _ | exact bi_R _ | (constructor <;> omega)) (fun c23 => ?_) (fun c23 => ?_)
  · exact False.elim (by omega)
  · skip
    refine ev_ald4 28 dX11_drop_26 rfl ?_
    refine ev_ald3 29 dX11_drop_28 rfl ?_
    refine tc_V1 32 5 dX11_drop_29 lkv_X11_220 (tr12 hT (by first | assumption | exact wx_stu hW (by omega) | exact wx_crs hW (by omega) | exact wx_new hW)) rfl rfl (by first | decide | omega) (Nat.le_of_ble_eq_true rfl) (c_X2_placeFor hT hW (by omega) (by first | assumption | exact wx_stu hW (by omega)) (by omega)) ?_
    refine tj_iconst 33 dX11_drop_32 rfl ?_
    refine tj_icmp_ne 46 36 dX11_drop_33 (by decide) rfl (by first | exact TR.rng hT _ _ _ | exact R31_of _ | exact bi_R _ | (constructor <;> omega)) (by first | exact TR.rng hT _ _ _ | exact R31_of _ | exact bi_R _ | (constructor <;> omega)) (fun c33 => ?_) (fun c33 => ?_)
    · skip
      refine ev_ald0 47 dX11_drop_46 rfl ?_
      refine ev_getfield 50 13 5 fl_X11_180_13 (tr0 hT) rfl dX11_drop_47 rfl ?_
      refine tj_bipush 52 dX11_drop_50 (by decide) rfl ?_
      refine tj_icmp_le 65 55 dX11_drop_52 (by decide) rfl (by first | exact TR.rng hT _ _ _ | exact R31_of _ | exact bi_R _ | (constructor <;> omega)) (by first | exact TR.rng hT _ _ _ | exact R31_of _ | exact bi_R _ | (constructor <;> omega)) (fun c52 => ?_) (fun c52 => ?_)
      · exact False.elim (by omega)
      · skip
        exact ev_throwS th_X11_74_226_78 rfl ⟨rfl, rfl⟩ (by decide) (by decide) dX11_drop_55 dX11_drop_58 dX11_drop_59 dX11_drop_61 dX11_drop_64 (by decide) (by decide)
    · exact False.elim (by omega)
set_option maxRecDepth 100000 in
set_option maxHeartbeats 4000000 in
theorem c_X11_drop_okt {g : Gt} {α : AL} {ν : Nat → Nat → Bool} {X : XM} {h : AH} (hT : TR g α ν X h) (hW : WX ν X) {s : Nat} (hs0 : (s : Int) < nS X) {c : Nat} (hc : (c : Int) < nC X) (htk : tak X s c = true) (hd : X 0 0 5 ≤ 20) : Mu g α ν M_X11_drop 28 [.ref (α 0 0), .int (J (s : Int)), .int (J (c : Int))] h (some (.int (J (if 9 ≤ X 0 0 5 then 119 else 100)))) (fun X' => X' = gv (eO X s (c : Int)) ∧ WX ν X') := by
  refine mu_of rfl rfl (ls := [some (.ref (α 0 0)), some (.int (J (s : Int))), some (.int (J (c : Int))), none, none, none]) rfl (Nat.le_of_ble_eq_true rfl) ?_
  show Ev g M_X11_drop 28 0 [some (.ref (α 0 0)), some (.int (J (s : Int))), some (.int (J (c : Int))), none, none, none] [] h 0 0 (UQ g α ν (some (.int (J (if 9 ≤ X 0 0 5 then 119 else 100)))) (fun X' => X' = gv (eO X s (c : Int)) ∧ WX ν X'))
  have q1 := wo_nC hW.1
  have q3 := wo_nS hW.1
  have hs := wx_stu hW hs0
  have hl : s < 17 := by omega
  have wt := wo_t01 hW.1 s c (by omega)
  have ht2 : X 5 s c ≠ 0 := of_decide_eq_true htk
  refine ev_ald0 1 dX11_drop_0 rfl ?_
  refine ev_ild1 2 dX11_drop_1 rfl ?_
  refine tc_V1 5 13 dX11_drop_2 lkv_X11_93 (tr0 hT) rfl rfl (by first | decide | omega) (Nat.le_of_ble_eq_true rfl) (c_X11_studentAt_ok hT hW (by omega)) ?_
  refine ev_ast3 6 dX11_drop_5 rfl (by decide) rfl ?_
  refine ev_ald0 7 dX11_drop_6 rfl ?_
  refine ev_ild2 8 dX11_drop_7 rfl ?_
  refine tc_V1 11 13 dX11_drop_8 lkv_X11_104 (tr0 hT) rfl rfl (by first | decide | omega) (Nat.le_of_ble_eq_true rfl) (c_X11_courseAt_ok hT hW (by omega)) ?_
  refine ev_ast4 13 dX11_drop_11 rfl (by decide) rfl ?_
  refine ev_ald3 14 dX11_drop_13 rfl ?_
  refine ev_getfield 17 10 1 fl_X11_214_10 (tr4 hT (by first | assumption | exact wx_stu hW (by omega) | exact wx_crs hW (by omega) | exact wx_new hW) (by omega)) rfl dX11_drop_14 rfl ?_
  refine ev_ild2 18 dX11_drop_17 rfl ?_
  refine tv_zald 19 (tr5 hT (by first | assumption | exact wx_stu hW (by omega) | exact wx_crs hW (by omega) | exact wx_new hW) (by omega)) (c) (by omega) (by omega) (by omega) dX11_drop_18 rfl ?_
  refine ev_ist5 21 dX11_drop_19 rfl (by decide) rfl ?_
  refine ev_ild5 23 dX11_drop_21 rfl ?_
  refine tj_if_ne 46 26 dX11_drop_23 (by decide) rfl (by first | exact TR.rng hT _ _ _ | exact R31_of _ | exact bi_R _ | (constructor <;> omega)) (fun c23 => ?_) (fun c23 => ?_)
  · skip
    refine ev_ald0 47 dX11_drop_46 rfl ?_
    refine ev_getfield 50 13 5 fl_X11_180_13 (tr0 hT) rfl dX11_drop_47 rfl ?_
    refine tj_bipush 52 dX11_drop_50 (by decide) rfl ?_
    refine tj_icmp_le 65 55 dX11_drop_52 (by decide) rfl (by first | exact TR.rng hT _ _ _ | exact R31_of _ | exact bi_R _ | (constructor <;> omega)) (by first | exact TR.rng hT _ _ _ | exact R31_of _ | exact bi_R _ | (constructor <;> omega)) (fun c52 => ?_) (fun c52 => ?_)
    · skip
      refine ev_ild5 67 dX11_drop_65 rfl ?_
      refine tj_if_eq 79 70 dX11_drop_67 (by decide) rfl (by first | exact TR.rng hT _ _ _ | exact R31_of _ | exact bi_R _ | (constructor <;> omega)) (fun c67 => ?_) (fun c67 => ?_)
      · exact False.elim (by omega)
      · skip
        refine ev_ald0 71 dX11_drop_70 rfl ?_
        refine ev_ald3 72 dX11_drop_71 rfl ?_
        refine ev_ild2 73 dX11_drop_72 rfl ?_
        refine tmv_V2 76 13 dX11_drop_73 lkv_X11_228 (tr0 hT) rfl rfl (by first | decide | omega) (Nat.le_of_ble_eq_true rfl) (c_X11_endWithOthers hT hW hs0 hc htk) (fun h X1 hT hP73 => ?_)
        have hW0 := hW
        have hPe := hP73.1
        have hW := hP73.2
        refine ev_goto 85 dX11_drop_76 (by decide) ?_
        refine ev_ald0 86 dX11_drop_85 rfl ?_
        refine tmv_V0 89 13 dX11_drop_86 lkv_X11_101 (tr0 hT) rfl rfl (by first | decide | omega) (Nat.le_of_ble_eq_true rfl) (c_X11_giveOutSeats hT hW) (fun h X1 hT hP86 => ?_)
        have ed : X1 0 0 5 = X 0 0 5 := by rw [hP86.1, gv_k (by decide) (by decide) (by decide), hPe, eO, eN_k (by decide) (by decide) (by decide) (by decide)]
        refine ev_ild5 91 dX11_drop_89 rfl ?_
        refine tj_if_ne 97 94 dX11_drop_91 (by decide) rfl (by first | exact TR.rng hT _ _ _ | exact R31_of _ | exact bi_R _ | (constructor <;> omega)) (fun c91 => ?_) (fun c91 => ?_)
        · skip
          refine ev_ald0 98 dX11_drop_97 rfl ?_
          refine tc_V0 101 13 dX11_drop_98 lkv_X11_236 (tr0 hT) rfl rfl (by first | decide | omega) (Nat.le_of_ble_eq_true rfl) (c_X11_isWithdrawalDay hT) ?_
          refine tb_if_eq 109 104 dX11_drop_101 (by decide) rfl (fun c101 => ?_) (fun c101 => ?_)
          · skip
            have hwd := of_decide_eq_false c101
            refine tj_bipush 111 dX11_drop_109 (by decide) rfl ?_
            exact tz_retcU (by first | rfl | omega | exact bi_dt (by omega) | exact bi_df (by omega) | (first | (rw [if_pos (by omega)]; done) | (rw [if_neg (by omega)]; done))) (by first | decide | omega) hT (by exact ⟨by rw [hP86.1, hPe], hP86.2⟩) rfl dX11_drop_111
          · skip
            have hwd := of_decide_eq_true c101
            refine tj_bipush 106 dX11_drop_104 (by decide) rfl ?_
            refine ev_goto 111 dX11_drop_106 (by decide) ?_
            exact tz_retcU (by first | rfl | omega | exact bi_dt (by omega) | exact bi_df (by omega) | (first | (rw [if_pos (by omega)]; done) | (rw [if_neg (by omega)]; done))) (by first | decide | omega) hT (by exact ⟨by rw [hP86.1, hPe], hP86.2⟩) rfl dX11_drop_111
        · exact False.elim (by omega)
    · exact False.elim (by omega)
  · exact False.elim (by omega)
set_option maxRecDepth 100000 in
set_option maxHeartbeats 4000000 in
theorem c_X11_drop_okw {g : Gt} {α : AL} {ν : Nat → Nat → Bool} {X : XM} {h : AH} (hT : TR g α ν X h) (hW : WX ν X) {s : Nat} (hs0 : (s : Int) < nS X) {c : Nat} (hc : (c : Int) < nC X) (htk : tak X s c = false) (hpl : place X c s ≠ -1) (hd : X 0 0 5 ≤ 20) : Mu g α ν M_X11_drop 28 [.ref (α 0 0), .int (J (s : Int)), .int (J (c : Int))] h (some (.int (J (108)))) (fun X' => X' = gv (lv X c (place X c s).toNat) ∧ WX ν X') := by
  refine mu_of rfl rfl (ls := [some (.ref (α 0 0)), some (.int (J (s : Int))), some (.int (J (c : Int))), none, none, none]) rfl (Nat.le_of_ble_eq_true rfl) ?_
  show Ev g M_X11_drop 28 0 [some (.ref (α 0 0)), some (.int (J (s : Int))), some (.int (J (c : Int))), none, none, none] [] h 0 0 (UQ g α ν (some (.int (J (108)))) (fun X' => X' = gv (lv X c (place X c s).toNat) ∧ WX ν X'))
  have q1 := wo_nC hW.1
  have q3 := wo_nS hW.1
  have hs := wx_stu hW hs0
  have hl : s < 17 := by omega
  have wt := wo_t01 hW.1 s c (by omega)
  have ht2 : X 5 s c = 0 := by simpa using of_decide_eq_false htk
  have wp9 := place_R hW.1 hc s
  refine ev_ald0 1 dX11_drop_0 rfl ?_
  refine ev_ild1 2 dX11_drop_1 rfl ?_
  refine tc_V1 5 13 dX11_drop_2 lkv_X11_93 (tr0 hT) rfl rfl (by first | decide | omega) (Nat.le_of_ble_eq_true rfl) (c_X11_studentAt_ok hT hW (by omega)) ?_
  refine ev_ast3 6 dX11_drop_5 rfl (by decide) rfl ?_
  refine ev_ald0 7 dX11_drop_6 rfl ?_
  refine ev_ild2 8 dX11_drop_7 rfl ?_
  refine tc_V1 11 13 dX11_drop_8 lkv_X11_104 (tr0 hT) rfl rfl (by first | decide | omega) (Nat.le_of_ble_eq_true rfl) (c_X11_courseAt_ok hT hW (by omega)) ?_
  refine ev_ast4 13 dX11_drop_11 rfl (by decide) rfl ?_
  refine ev_ald3 14 dX11_drop_13 rfl ?_
  refine ev_getfield 17 10 1 fl_X11_214_10 (tr4 hT (by first | assumption | exact wx_stu hW (by omega) | exact wx_crs hW (by omega) | exact wx_new hW) (by omega)) rfl dX11_drop_14 rfl ?_
  refine ev_ild2 18 dX11_drop_17 rfl ?_
  refine tv_zald 19 (tr5 hT (by first | assumption | exact wx_stu hW (by omega) | exact wx_crs hW (by omega) | exact wx_new hW) (by omega)) (c) (by omega) (by omega) (by omega) dX11_drop_18 rfl ?_
  refine ev_ist5 21 dX11_drop_19 rfl (by decide) rfl ?_
  refine ev_ild5 23 dX11_drop_21 rfl ?_
  refine tj_if_ne 46 26 dX11_drop_23 (by decide) rfl (by first | exact TR.rng hT _ _ _ | exact R31_of _ | exact bi_R _ | (constructor <;> omega)) (fun c23 => ?_) (fun c23 => ?_)
  · exact False.elim (by omega)
  · skip
    refine ev_ald4 28 dX11_drop_26 rfl ?_
    refine ev_ald3 29 dX11_drop_28 rfl ?_
    refine tc_V1 32 5 dX11_drop_29 lkv_X11_220 (tr12 hT (by first | assumption | exact wx_stu hW (by omega) | exact wx_crs hW (by omega) | exact wx_new hW)) rfl rfl (by first | decide | omega) (Nat.le_of_ble_eq_true rfl) (c_X2_placeFor hT hW (by omega) (by first | assumption | exact wx_stu hW (by omega)) (by omega)) ?_
    refine tj_iconst 33 dX11_drop_32 rfl ?_
    refine tj_icmp_ne 46 36 dX11_drop_33 (by decide) rfl (by first | exact TR.rng hT _ _ _ | exact R31_of _ | exact bi_R _ | (constructor <;> omega)) (by first | exact TR.rng hT _ _ _ | exact R31_of _ | exact bi_R _ | (constructor <;> omega)) (fun c33 => ?_) (fun c33 => ?_)
    · skip
      refine ev_ald0 47 dX11_drop_46 rfl ?_
      refine ev_getfield 50 13 5 fl_X11_180_13 (tr0 hT) rfl dX11_drop_47 rfl ?_
      refine tj_bipush 52 dX11_drop_50 (by decide) rfl ?_
      refine tj_icmp_le 65 55 dX11_drop_52 (by decide) rfl (by first | exact TR.rng hT _ _ _ | exact R31_of _ | exact bi_R _ | (constructor <;> omega)) (by first | exact TR.rng hT _ _ _ | exact R31_of _ | exact bi_R _ | (constructor <;> omega)) (fun c52 => ?_) (fun c52 => ?_)
      · skip
        refine ev_ild5 67 dX11_drop_65 rfl ?_
        refine tj_if_eq 79 70 dX11_drop_67 (by decide) rfl (by first | exact TR.rng hT _ _ _ | exact R31_of _ | exact bi_R _ | (constructor <;> omega)) (fun c67 => ?_) (fun c67 => ?_)
        · skip
          refine ev_ald4 81 dX11_drop_79 rfl ?_
          refine ev_ald3 82 dX11_drop_81 rfl ?_
          refine tmv_V1 85 5 dX11_drop_82 lkv_X11_232 (tr12 hT (by first | assumption | exact wx_stu hW (by omega) | exact wx_crs hW (by omega) | exact wx_new hW)) rfl rfl (by first | decide | omega) (Nat.le_of_ble_eq_true rfl) (c_X2_stopWaiting hT hW (by omega) hs hl) (fun h X1 hT hP82 => ?_)
          rw [if_neg hpl] at hP82
          have hW0 := hW
          have hW : WX ν X1 := by rw [hP82]; exact wx_lvp hW0 hc hpl
          refine ev_ald0 86 dX11_drop_85 rfl ?_
          refine tmv_V0 89 13 dX11_drop_86 lkv_X11_101 (tr0 hT) rfl rfl (by first | decide | omega) (Nat.le_of_ble_eq_true rfl) (c_X11_giveOutSeats hT hW) (fun h X1 hT hP86 => ?_)
          refine ev_ild5 91 dX11_drop_89 rfl ?_
          refine tj_if_ne 97 94 dX11_drop_91 (by decide) rfl (by first | exact TR.rng hT _ _ _ | exact R31_of _ | exact bi_R _ | (constructor <;> omega)) (fun c91 => ?_) (fun c91 => ?_)
          · exact False.elim (by omega)
          · skip
            refine tj_bipush 96 dX11_drop_94 (by decide) rfl ?_
            exact tz_retcU (by first | rfl | omega | exact bi_dt (by omega) | exact bi_df (by omega) | (skip)) (by first | decide | omega) hT (by exact ⟨by rw [hP86.1, hP82], hP86.2⟩) rfl dX11_drop_96
        · exact False.elim (by omega)
      · exact False.elim (by omega)
    · exact False.elim (by omega)
set_option maxRecDepth 100000 in
set_option maxHeartbeats 4000000 in
theorem c_X11_swap_b1 {g : Gt} {α : AL} {ν : Nat → Nat → Bool} {X : XM} {h : AH} (hT : TR g α ν X h) (hW : WX ν X) {b : Int} (hb : R31 b) (hn : ¬ (0 ≤ b ∧ b < nS X)) {a1 : Int} (ha1 : R31 a1) {a2 : Int} (ha2 : R31 a2) : Th g M_X11_swap 28 [.ref (α 0 0), .int (J b), .int (J a1), .int (J a2)] h "java/lang/IndexOutOfBoundsException" := by
  refine th_of rfl rfl (ls := [some (.ref (α 0 0)), some (.int (J b)), some (.int (J a1)), some (.int (J a2)), none, none, none, none]) rfl (Nat.le_of_ble_eq_true rfl) ?_
  show Ev g M_X11_swap 28 0 [some (.ref (α 0 0)), some (.int (J b)), some (.int (J a1)), some (.int (J a2)), none, none, none, none] [] h 1 6 (TQ "java/lang/IndexOutOfBoundsException" h)
  have q1 := wo_nC hW.1
  have q3 := wo_nS hW.1
  refine ev_ald0 1 dX11_swap_0 rfl ?_
  refine ev_ild1 2 dX11_swap_1 rfl ?_
  exact tx_V1 5 13 dX11_swap_2 lkv_X11_93 (tr0 hT) rfl rfl (by first | decide | omega) (Nat.le_of_ble_eq_true rfl) rfl (by decide) (by decide) (c_X11_studentAt_no hT hW hb hn) ⟨rfl, rfl⟩
set_option maxRecDepth 100000 in
set_option maxHeartbeats 4000000 in
theorem c_X11_swap_b2 {g : Gt} {α : AL} {ν : Nat → Nat → Bool} {X : XM} {h : AH} (hT : TR g α ν X h) (hW : WX ν X) {s : Nat} (hs0 : (s : Int) < nS X) {b : Int} (hb : R31 b) (hn : ¬ (0 ≤ b ∧ b < nC X)) {a2 : Int} (ha2 : R31 a2) : Th g M_X11_swap 28 [.ref (α 0 0), .int (J (s : Int)), .int (J b), .int (J a2)] h "java/lang/IndexOutOfBoundsException" := by
  refine th_of rfl rfl (ls := [some (.ref (α 0 0)), some (.int (J (s : Int))), some (.int (J b)), some (.int (J a2)), none, none, none, none]) rfl (Nat.le_of_ble_eq_true rfl) ?_
  show Ev g M_X11_swap 28 0 [some (.ref (α 0 0)), some (.int (J (s : Int))), some (.int (J b)), some (.int (J a2)), none, none, none, none] [] h 1 6 (TQ "java/lang/IndexOutOfBoundsException" h)
  have q1 := wo_nC hW.1
  have q3 := wo_nS hW.1
  have hs := wx_stu hW hs0
  have hl : s < 17 := by omega
  refine ev_ald0 1 dX11_swap_0 rfl ?_
  refine ev_ild1 2 dX11_swap_1 rfl ?_
  refine tc_V1 5 13 dX11_swap_2 lkv_X11_93 (tr0 hT) rfl rfl (by first | decide | omega) (Nat.le_of_ble_eq_true rfl) (c_X11_studentAt_ok hT hW (by omega)) ?_
  refine ev_ast4 7 dX11_swap_5 rfl (by decide) rfl ?_
  refine ev_ald0 8 dX11_swap_7 rfl ?_
  refine ev_ild2 9 dX11_swap_8 rfl ?_
  exact tx_V1 12 13 dX11_swap_9 lkv_X11_104 (tr0 hT) rfl rfl (by first | decide | omega) (Nat.le_of_ble_eq_true rfl) rfl (by decide) (by decide) (c_X11_courseAt_no hT hW hb hn) ⟨rfl, rfl⟩
set_option maxRecDepth 100000 in
set_option maxHeartbeats 4000000 in
theorem c_X11_swap_b3 {g : Gt} {α : AL} {ν : Nat → Nat → Bool} {X : XM} {h : AH} (hT : TR g α ν X h) (hW : WX ν X) {s : Nat} (hs0 : (s : Int) < nS X) {c : Nat} (hc : (c : Int) < nC X) {b : Int} (hb : R31 b) (hn : ¬ (0 ≤ b ∧ b < nC X)) : Th g M_X11_swap 28 [.ref (α 0 0), .int (J (s : Int)), .int (J (c : Int)), .int (J b)] h "java/lang/IndexOutOfBoundsException" := by
  refine th_of rfl rfl (ls := [some (.ref (α 0 0)), some (.int (J (s : Int))), some (.int (J (c : Int))), some (.int (J b)), none, none, none, none]) rfl (Nat.le_of_ble_eq_true rfl) ?_
  show Ev g M_X11_swap 28 0 [some (.ref (α 0 0)), some (.int (J (s : Int))), some (.int (J (c : Int))), some (.int (J b)), none, none, none, none] [] h 1 6 (TQ "java/lang/IndexOutOfBoundsException" h)
  have q1 := wo_nC hW.1
  have q3 := wo_nS hW.1
  have hs := wx_stu hW hs0
  have hl : s < 17 := by omega
  refine ev_ald0 1 dX11_swap_0 rfl ?_
  refine ev_ild1 2 dX11_swap_1 rfl ?_
  refine tc_V1 5 13 dX11_swap_2 lkv_X11_93 (tr0 hT) rfl rfl (by first | decide | omega) (Nat.le_of_ble_eq_true rfl) (c_X11_studentAt_ok hT hW (by omega)) ?_
  refine ev_ast4 7 dX11_swap_5 rfl (by decide) rfl ?_
  refine ev_ald0 8 dX11_swap_7 rfl ?_
  refine ev_ild2 9 dX11_swap_8 rfl ?_
  refine tc_V1 12 13 dX11_swap_9 lkv_X11_104 (tr0 hT) rfl rfl (by first | decide | omega) (Nat.le_of_ble_eq_true rfl) (c_X11_courseAt_ok hT hW (by omega)) ?_
  refine ev_pop 13 dX11_swap_12 rfl rfl ?_
  refine ev_ald0 14 dX11_swap_13 rfl ?_
  refine ev_ild3 15 dX11_swap_14 rfl ?_
  exact tx_V1 18 13 dX11_swap_15 lkv_X11_104 (tr0 hT) rfl rfl (by first | decide | omega) (Nat.le_of_ble_eq_true rfl) rfl (by decide) (by decide) (c_X11_courseAt_no hT hW hb hn) ⟨rfl, rfl⟩
set_option maxRecDepth 100000 in
set_option maxHeartbeats 4000000 in
theorem c_X11_swap_x2 {g : Gt} {α : AL} {ν : Nat → Nat → Bool} {X : XM} {h : AH} (hT : TR g α ν X h) (hW : WX ν X) {s : Nat} (hs0 : (s : Int) < nS X) {c : Nat} (hc : (c : Int) < nC X) {t : Nat} (ht : (t : Int) < nC X) (hd : 5 < X 0 0 5) : Th g M_X11_swap 28 [.ref (α 0 0), .int (J (s : Int)), .int (J (c : Int)), .int (J (t : Int))] h "java/lang/IllegalStateException" := by
  refine th_of rfl rfl (ls := [some (.ref (α 0 0)), some (.int (J (s : Int))), some (.int (J (c : Int))), some (.int (J (t : Int))), none, none, none, none]) rfl (Nat.le_of_ble_eq_true rfl) ?_
  show Ev g M_X11_swap 28 0 [some (.ref (α 0 0)), some (.int (J (s : Int))), some (.int (J (c : Int))), some (.int (J (t : Int))), none, none, none, none] [] h 1 6 (TQ "java/lang/IllegalStateException" h)
  have q1 := wo_nC hW.1
  have q3 := wo_nS hW.1
  have hs := wx_stu hW hs0
  have hl : s < 17 := by omega
  refine ev_ald0 1 dX11_swap_0 rfl ?_
  refine ev_ild1 2 dX11_swap_1 rfl ?_
  refine tc_V1 5 13 dX11_swap_2 lkv_X11_93 (tr0 hT) rfl rfl (by first | decide | omega) (Nat.le_of_ble_eq_true rfl) (c_X11_studentAt_ok hT hW (by omega)) ?_
  refine ev_ast4 7 dX11_swap_5 rfl (by decide) rfl ?_
  refine ev_ald0 8 dX11_swap_7 rfl ?_
  refine ev_ild2 9 dX11_swap_8 rfl ?_
  refine tc_V1 12 13 dX11_swap_9 lkv_X11_104 (tr0 hT) rfl rfl (by first | decide | omega) (Nat.le_of_ble_eq_true rfl) (c_X11_courseAt_ok hT hW (by omega)) ?_
  refine ev_pop 13 dX11_swap_12 rfl rfl ?_
  refine ev_ald0 14 dX11_swap_13 rfl ?_
  refine ev_ild3 15 dX11_swap_14 rfl ?_
  refine tc_V1 18 13 dX11_swap_15 lkv_X11_104 (tr0 hT) rfl rfl (by first | decide | omega) (Nat.le_of_ble_eq_true rfl) (c_X11_courseAt_ok hT hW (by omega)) ?_
  refine ev_ast5 20 dX11_swap_18 rfl (by decide) rfl ?_
  refine ev_ald0 21 dX11_swap_20 rfl ?_
  refine ev_getfield 24 13 5 fl_X11_180_13 (tr0 hT) rfl dX11_swap_21 rfl ?_
  refine tj_iconst 25 dX11_swap_24 rfl ?_
  refine tj_icmp_le 38 28 dX11_swap_25 (by decide) rfl (by first | exact TR.rng hT _ _ _ | exact R31_of _ | exact bi_R _ | (constructor <;> omega)) (by first | exact TR.rng hT _ _ _ | exact R31_of _ | exact bi_R _ | (constructor <;> omega)) (fun c25 => ?_) (fun c25 => ?_)
  · exact False.elim (by omega)
  · skip
    exact ev_throwS th_X11_74_195_78 rfl ⟨rfl, rfl⟩ (by decide) (by decide) dX11_swap_28 dX11_swap_31 dX11_swap_32 dX11_swap_34 dX11_swap_37 (by decide) (by decide)
set_option maxRecDepth 100000 in
set_option maxHeartbeats 4000000 in
theorem c_X11_swap_x3 {g : Gt} {α : AL} {ν : Nat → Nat → Bool} {X : XM} {h : AH} (hT : TR g α ν X h) (hW : WX ν X) {s : Nat} (hs0 : (s : Int) < nS X) {c : Nat} (hc : (c : Int) < nC X) {t : Nat} (ht : (t : Int) < nC X) (hd : X 0 0 5 ≤ 5) (htk : tak X s c = false) : Th g M_X11_swap 28 [.ref (α 0 0), .int (J (s : Int)), .int (J (c : Int)), .int (J (t : Int))] h "java/util/NoSuchElementException" := by
  refine th_of rfl rfl (ls := [some (.ref (α 0 0)), some (.int (J (s : Int))), some (.int (J (c : Int))), some (.int (J (t : Int))), none, none, none, none]) rfl (Nat.le_of_ble_eq_true rfl) ?_
  show Ev g M_X11_swap 28 0 [some (.ref (α 0 0)), some (.int (J (s : Int))), some (.int (J (c : Int))), some (.int (J (t : Int))), none, none, none, none] [] h 1 6 (TQ "java/util/NoSuchElementException" h)
  have q1 := wo_nC hW.1
  have q3 := wo_nS hW.1
  have hs := wx_stu hW hs0
  have hl : s < 17 := by omega
  have ht2 : X 5 s c = 0 := by simpa using of_decide_eq_false htk
  have wp9 := place_R hW.1 hc s
  refine ev_ald0 1 dX11_swap_0 rfl ?_
  refine ev_ild1 2 dX11_swap_1 rfl ?_
  refine tc_V1 5 13 dX11_swap_2 lkv_X11_93 (tr0 hT) rfl rfl (by first | decide | omega) (Nat.le_of_ble_eq_true rfl) (c_X11_studentAt_ok hT hW (by omega)) ?_
  refine ev_ast4 7 dX11_swap_5 rfl (by decide) rfl ?_
  refine ev_ald0 8 dX11_swap_7 rfl ?_
  refine ev_ild2 9 dX11_swap_8 rfl ?_
  refine tc_V1 12 13 dX11_swap_9 lkv_X11_104 (tr0 hT) rfl rfl (by first | decide | omega) (Nat.le_of_ble_eq_true rfl) (c_X11_courseAt_ok hT hW (by omega)) ?_
  refine ev_pop 13 dX11_swap_12 rfl rfl ?_
  refine ev_ald0 14 dX11_swap_13 rfl ?_
  refine ev_ild3 15 dX11_swap_14 rfl ?_
  refine tc_V1 18 13 dX11_swap_15 lkv_X11_104 (tr0 hT) rfl rfl (by first | decide | omega) (Nat.le_of_ble_eq_true rfl) (c_X11_courseAt_ok hT hW (by omega)) ?_
  refine ev_ast5 20 dX11_swap_18 rfl (by decide) rfl ?_
  refine ev_ald0 21 dX11_swap_20 rfl ?_
  refine ev_getfield 24 13 5 fl_X11_180_13 (tr0 hT) rfl dX11_swap_21 rfl ?_
  refine tj_iconst 25 dX11_swap_24 rfl ?_
  refine tj_icmp_le 38 28 dX11_swap_25 (by decide) rfl (by first | exact TR.rng hT _ _ _ | exact R31_of _ | exact bi_R _ | (constructor <;> omega)) (by first | exact TR.rng hT _ _ _ | exact R31_of _ | exact bi_R _ | (constructor <;> omega)) (fun c25 => ?_) (fun c25 => ?_)
  · skip
    refine ev_ald4 40 dX11_swap_38 rfl ?_
    refine ev_getfield 43 10 1 fl_X11_214_10 (tr4 hT (by first | assumption | exact wx_stu hW (by omega) | exact wx_crs hW (by omega) | exact wx_new hW) (by omega)) rfl dX11_swap_40 rfl ?_
    refine ev_ild2 44 dX11_swap_43 rfl ?_
    refine tv_zald 45 (tr5 hT (by first | assumption | exact wx_stu hW (by omega) | exact wx_crs hW (by omega) | exact wx_new hW) (by omega)) (c) (by omega) (by omega) (by omega) dX11_swap_44 rfl ?_
    refine tj_if_ne 58 48 dX11_swap_45 (by decide) rfl (by first | exact TR.rng hT _ _ _ | exact R31_of _ | exact bi_R _ | (constructor <;> omega)) (fun c45 => ?_) (fun c45 => ?_)
    · exact False.elim (by omega)
    · skip
      exact ev_throwN tn_X11_209_240_213 rfl ⟨rfl, rfl⟩ (by decide) (Nat.le_of_ble_eq_true rfl) dX11_swap_48 dX11_swap_51 dX11_swap_52 dX11_swap_54 dX11_swap_57 (by decide) (by decide)
  · exact False.elim (by omega)
set_option maxRecDepth 100000 in
set_option maxHeartbeats 4000000 in
theorem c_X11_swap_x4a {g : Gt} {α : AL} {ν : Nat → Nat → Bool} {X : XM} {h : AH} (hT : TR g α ν X h) (hW : WX ν X) {s : Nat} (hs0 : (s : Int) < nS X) {c : Nat} (hc : (c : Int) < nC X) {t : Nat} (ht : (t : Int) < nC X) (hd : X 0 0 5 ≤ 5) (htk : tak X s c = true) (hct : c = t) : Th g M_X11_swap 28 [.ref (α 0 0), .int (J (s : Int)), .int (J (c : Int)), .int (J (t : Int))] h "java/lang/IllegalArgumentException" := by
  refine th_of rfl rfl (ls := [some (.ref (α 0 0)), some (.int (J (s : Int))), some (.int (J (c : Int))), some (.int (J (t : Int))), none, none, none, none]) rfl (Nat.le_of_ble_eq_true rfl) ?_
  show Ev g M_X11_swap 28 0 [some (.ref (α 0 0)), some (.int (J (s : Int))), some (.int (J (c : Int))), some (.int (J (t : Int))), none, none, none, none] [] h 1 6 (TQ "java/lang/IllegalArgumentException" h)
  have q1 := wo_nC hW.1
  have q3 := wo_nS hW.1
  have hs := wx_stu hW hs0
  have hl : s < 17 := by omega
  have ht2 : X 5 s c ≠ 0 := of_decide_eq_true htk
  refine ev_ald0 1 dX11_swap_0 rfl ?_
  refine ev_ild1 2 dX11_swap_1 rfl ?_
  refine tc_V1 5 13 dX11_swap_2 lkv_X11_93 (tr0 hT) rfl rfl (by first | decide | omega) (Nat.le_of_ble_eq_true rfl) (c_X11_studentAt_ok hT hW (by omega)) ?_
  refine ev_ast4 7 dX11_swap_5 rfl (by decide) rfl ?_
  refine ev_ald0 8 dX11_swap_7 rfl ?_
  refine ev_ild2 9 dX11_swap_8 rfl ?_
  refine tc_V1 12 13 dX11_swap_9 lkv_X11_104 (tr0 hT) rfl rfl (by first | decide | omega) (Nat.le_of_ble_eq_true rfl) (c_X11_courseAt_ok hT hW (by omega)) ?_
  refine ev_pop 13 dX11_swap_12 rfl rfl ?_
  refine ev_ald0 14 dX11_swap_13 rfl ?_
  refine ev_ild3 15 dX11_swap_14 rfl ?_
  refine tc_V1 18 13 dX11_swap_15 lkv_X11_104 (tr0 hT) rfl rfl (by first | decide | omega) (Nat.le_of_ble_eq_true rfl) (c_X11_courseAt_ok hT hW (by omega)) ?_
  refine ev_ast5 20 dX11_swap_18 rfl (by decide) rfl ?_
  refine ev_ald0 21 dX11_swap_20 rfl ?_
  refine ev_getfield 24 13 5 fl_X11_180_13 (tr0 hT) rfl dX11_swap_21 rfl ?_
  refine tj_iconst 25 dX11_swap_24 rfl ?_
  refine tj_icmp_le 38 28 dX11_swap_25 (by decide) rfl (by first | exact TR.rng hT _ _ _ | exact R31_of _ | exact bi_R _ | (constructor <;> omega)) (by first | exact TR.rng hT _ _ _ | exact R31_of _ | exact bi_R _ | (constructor <;> omega)) (fun c25 => ?_) (fun c25 => ?_)
  · skip
    refine ev_ald4 40 dX11_swap_38 rfl ?_
    refine ev_getfield 43 10 1 fl_X11_214_10 (tr4 hT (by first | assumption | exact wx_stu hW (by omega) | exact wx_crs hW (by omega) | exact wx_new hW) (by omega)) rfl dX11_swap_40 rfl ?_
    refine ev_ild2 44 dX11_swap_43 rfl ?_
    refine tv_zald 45 (tr5 hT (by first | assumption | exact wx_stu hW (by omega) | exact wx_crs hW (by omega) | exact wx_new hW) (by omega)) (c) (by omega) (by omega) (by omega) dX11_swap_44 rfl ?_
    refine tj_if_ne 58 48 dX11_swap_45 (by decide) rfl (by first | exact TR.rng hT _ _ _ | exact R31_of _ | exact bi_R _ | (constructor <;> omega)) (fun c45 => ?_) (fun c45 => ?_)
    · skip
      refine ev_ild2 59 dX11_swap_58 rfl ?_
      refine ev_ild3 60 dX11_swap_59 rfl ?_
      refine tj_icmp_eq 73 63 dX11_swap_60 (by decide) rfl (by first | exact TR.rng hT _ _ _ | exact R31_of _ | exact bi_R _ | (constructor <;> omega)) (by first | exact TR.rng hT _ _ _ | exact R31_of _ | exact bi_R _ | (constructor <;> omega)) (fun c60 => ?_) (fun c60 => ?_)
      · skip
        exact ev_throwS th_X11_63_242_67 rfl ⟨rfl, rfl⟩ (by decide) (by decide) dX11_swap_73 dX11_swap_76 dX11_swap_77 dX11_swap_79 dX11_swap_82 (by decide) (by decide)
      · exact False.elim (by omega)
    · exact False.elim (by omega)
  · exact False.elim (by omega)
set_option maxRecDepth 100000 in
set_option maxHeartbeats 4000000 in
theorem c_X11_swap_x4b {g : Gt} {α : AL} {ν : Nat → Nat → Bool} {X : XM} {h : AH} (hT : TR g α ν X h) (hW : WX ν X) {s : Nat} (hs0 : (s : Int) < nS X) {c : Nat} (hc : (c : Int) < nC X) {t : Nat} (ht : (t : Int) < nC X) (hd : X 0 0 5 ≤ 5) (htk : tak X s c = true) (hct : ¬ c = t) (htt : tak X s t = true) : Th g M_X11_swap 28 [.ref (α 0 0), .int (J (s : Int)), .int (J (c : Int)), .int (J (t : Int))] h "java/lang/IllegalArgumentException" := by
  refine th_of rfl rfl (ls := [some (.ref (α 0 0)), some (.int (J (s : Int))), some (.int (J (c : Int))), some (.int (J (t : Int))), none, none, none, none]) rfl (Nat.le_of_ble_eq_true rfl) ?_
  show Ev g M_X11_swap 28 0 [some (.ref (α 0 0)), some (.int (J (s : Int))), some (.int (J (c : Int))), some (.int (J (t : Int))), none, none, none, none] [] h 1 6 (TQ "java/lang/IllegalArgumentException" h)
  have q1 := wo_nC hW.1
  have q3 := wo_nS hW.1
  have hs := wx_stu hW hs0
  have hl : s < 17 := by omega
  have ht2 : X 5 s c ≠ 0 := of_decide_eq_true htk
  have ht3 : X 5 s t ≠ 0 := of_decide_eq_true htt
  refine ev_ald0 1 dX11_swap_0 rfl ?_
  refine ev_ild1 2 dX11_swap_1 rfl ?_
  refine tc_V1 5 13 dX11_swap_2 lkv_X11_93 (tr0 hT) rfl rfl (by first | decide | omega) (Nat.le_of_ble_eq_true rfl) (c_X11_studentAt_ok hT hW (by omega)) ?_
  refine ev_ast4 7 dX11_swap_5 rfl (by decide) rfl ?_
  refine ev_ald0 8 dX11_swap_7 rfl ?_
  refine ev_ild2 9 dX11_swap_8 rfl ?_
  refine tc_V1 12 13 dX11_swap_9 lkv_X11_104 (tr0 hT) rfl rfl (by first | decide | omega) (Nat.le_of_ble_eq_true rfl) (c_X11_courseAt_ok hT hW (by omega)) ?_
  refine ev_pop 13 dX11_swap_12 rfl rfl ?_
  refine ev_ald0 14 dX11_swap_13 rfl ?_
  refine ev_ild3 15 dX11_swap_14 rfl ?_
  refine tc_V1 18 13 dX11_swap_15 lkv_X11_104 (tr0 hT) rfl rfl (by first | decide | omega) (Nat.le_of_ble_eq_true rfl) (c_X11_courseAt_ok hT hW (by omega)) ?_
  refine ev_ast5 20 dX11_swap_18 rfl (by decide) rfl ?_
  refine ev_ald0 21 dX11_swap_20 rfl ?_
  refine ev_getfield 24 13 5 fl_X11_180_13 (tr0 hT) rfl dX11_swap_21 rfl ?_
  refine tj_iconst 25 dX11_swap_24 rfl ?_
  refine tj_icmp_le 38 28 dX11_swap_25 (by decide) rfl (by first | exact TR.rng hT _ _ _ | exact R31_of _ | exact bi_R _ | (constructor <;> omega)) (by first | exact TR.rng hT _ _ _ | exact R31_of _ | exact bi_R _ | (constructor <;> omega)) (fun c25 => ?_) (fun c25 => ?_)
  · skip
    refine ev_ald4 40 dX11_swap_38 rfl ?_
    refine ev_getfield 43 10 1 fl_X11_214_10 (tr4 hT (by first | assumption | exact wx_stu hW (by omega) | exact wx_crs hW (by omega) | exact wx_new hW) (by omega)) rfl dX11_swap_40 rfl ?_
    refine ev_ild2 44 dX11_swap_43 rfl ?_
    refine tv_zald 45 (tr5 hT (by first | assumption | exact wx_stu hW (by omega) | exact wx_crs hW (by omega) | exact wx_new hW) (by omega)) (c) (by omega) (by omega) (by omega) dX11_swap_44 rfl ?_
    refine tj_if_ne 58 48 dX11_swap_45 (by decide) rfl (by first | exact TR.rng hT _ _ _ | exact R31_of _ | exact bi_R _ | (constructor <;> omega)) (fun c45 => ?_) (fun c45 => ?_)
    · skip
      refine ev_ild2 59 dX11_swap_58 rfl ?_
      refine ev_ild3 60 dX11_swap_59 rfl ?_
      refine tj_icmp_eq 73 63 dX11_swap_60 (by decide) rfl (by first | exact TR.rng hT _ _ _ | exact R31_of _ | exact bi_R _ | (constructor <;> omega)) (by first | exact TR.rng hT _ _ _ | exact R31_of _ | exact bi_R _ | (constructor <;> omega)) (fun c60 => ?_) (fun c60 => ?_)
      · exact False.elim (by omega)
      · skip
        refine ev_ald4 65 dX11_swap_63 rfl ?_
        refine ev_getfield 68 10 1 fl_X11_214_10 (tr4 hT (by first | assumption | exact wx_stu hW (by omega) | exact wx_crs hW (by omega) | exact wx_new hW) (by omega)) rfl dX11_swap_65 rfl ?_
        refine ev_ild3 69 dX11_swap_68 rfl ?_
        refine tv_zald 70 (tr5 hT (by first | assumption | exact wx_stu hW (by omega) | exact wx_crs hW (by omega) | exact wx_new hW) (by omega)) (t) (by omega) (by omega) (by omega) dX11_swap_69 rfl ?_
        refine tj_if_eq 83 73 dX11_swap_70 (by decide) rfl (by first | exact TR.rng hT _ _ _ | exact R31_of _ | exact bi_R _ | (constructor <;> omega)) (fun c70 => ?_) (fun c70 => ?_)
        · exact False.elim (by omega)
        · skip
          exact ev_throwS th_X11_63_242_67 rfl ⟨rfl, rfl⟩ (by decide) (by decide) dX11_swap_73 dX11_swap_76 dX11_swap_77 dX11_swap_79 dX11_swap_82 (by decide) (by decide)
    · exact False.elim (by omega)
  · exact False.elim (by omega)
theorem c_X11_swap_x4 {g : Gt} {α : AL} {ν : Nat → Nat → Bool} {X : XM} {h : AH} (hT : TR g α ν X h) (hW : WX ν X) {s : Nat} (hs0 : (s : Int) < nS X) {c : Nat} (hc : (c : Int) < nC X) {t : Nat} (ht : (t : Int) < nC X) (hd : X 0 0 5 ≤ 5) (htk : tak X s c = true) (hm : c = t ∨ tak X s t = true) : Th g M_X11_swap 28 [.ref (α 0 0), .int (J (s : Int)), .int (J (c : Int)), .int (J (t : Int))] h "java/lang/IllegalArgumentException" := by
  by_cases q : c = t
  · exact c_X11_swap_x4a hT hW hs0 hc ht hd htk q
  · exact c_X11_swap_x4b hT hW hs0 hc ht hd htk q (hm.resolve_left q)
/-- what a swap copies aside -/
def tkB (X : XM) (s : Nat) : XM := xw X 29 0 (fun j => if j < 20 then X 5 s j else X 29 0 j)
theorem tkB_k {X : XM} {s k : Nat} (h : k ≠ 29) : tkB X s k = X k := funext fun i => xw_ne (fun z => h z.1)
theorem wx_29 {ν : Nat → Nat → Bool} {X Y : XM} (h : WX ν X) (hk : ∀ k, k ≠ 29 → Y k = X k) : WX ν Y := wx_cg h (fun kk q => hk kk (by omega))
theorem fits_z {x : Int} (h : x = 0 ∨ x = 1) : fits .boolean (.int (J x)) = true := by rcases h with h | h <;> rw [h] <;> rfl
theorem eN_d {s k : Nat} (h5 : k ≠ 5) : ∀ (n : Nat) {X : XM} {c : Int}, X 0 0 5 ≤ 5 → eN n X s c k = X k
  | 0, _, _, _ => rfl
  | n + 1, X, c, hd => by
    rw [eN]
    split
    · rfl
    · have e : en1 X s c.toNat = xs X 5 s c.toNat 0 := by unfold en1; rw [if_neg (by omega)]
      rw [e, eN_d h5 n (by rw [xs_nk (by decide)]; exact hd), xs_nk h5]
theorem sw_back {X XE : XM} {s : Nat} {c : Int} (hO : WO (tkB X s)) (hs : (s : Int) < nS (tkB X s)) (htc : TC (tkB X s) s c) (hE : XE = eO (tkB X s) s c) (hd : X 0 0 5 ≤ 5) : ∀ k, k ≠ 29 → xw XE 5 s (fun j => if j < 20 then XE 29 0 j else XE 5 s j) k = X k := by
  intro k hk
  funext i
  by_cases e : k = 5 ∧ i = s
  · obtain ⟨rfl, rfl⟩ := e
    rw [xw_at]
    funext j
    have e29 : XE 29 = tkB X i 29 := by rw [hE]; exact eN_k (by decide) (by decide) (by decide) (by decide) _ _ _ _
    by_cases q : j < 20
    · rw [if_pos q, e29]
      unfold tkB
      rw [xw_at, if_pos q]
    · rw [if_neg q, hE, eO, eN_5 (Or.inr (by omega)) 20 hO hs htc, tkB_k (by decide)]
  · rw [xw_ne e]
    by_cases e5 : k = 5
    · subst e5
      funext j
      rw [hE, eO, eN_5 (Or.inl (fun z => e ⟨rfl, z⟩)) 20 hO hs htc, tkB_k (by decide)]
    · rw [hE, eO, eN_d e5 20 (by rw [tkB_k (by decide)]; exact hd), tkB_k hk]
/-- who waits leaves the list -/
def sw (X : XM) (c s : Nat) : XM := if place X c s = -1 then X else lv X c (place X c s).toNat
theorem wx_sw {ν : Nat → Nat → Bool} {X : XM} (h : WX ν X) {c s : Nat} (hc : (c : Int) < nC X) : WX ν (sw X c s) := by
  unfold sw
  split
  · exact h
  · rename_i q; exact wx_lvp h hc q
theorem wo_sw {X : XM} (h : WO X) {c s : Nat} (hc : (c : Int) < nC X) : WO (sw X c s) := by
  unfold sw
  split
  · exact h
  · have q5 := wo_wN h c hc
    have q6 := place_R h hc s
    have q7 := plc_R X c s (X 1 (4 + c) 2).toNat
    exact wo_lv h hc (by have := q7.2; unfold place at *; omega)
theorem sw_k {X : XM} {c s k : Nat} (h1 : k ≠ 1) (h2 : k ≠ 2) : sw X c s k = X k := by
  unfold sw
  split
  · rfl
  · exact lv_k h1 h2
theorem sw_l (X : XM) {c s i : Nat} (hi : i < 4) : sw X c s 1 i 2 = X 1 i 2 := by
  unfold sw
  split
  · rfl
  · rw [lv_ne (by omega)]
set_option maxRecDepth 100000 in
set_option maxHeartbeats 4000000 in
theorem c_X11_swap_x5 {g : Gt} {α : AL} {ν : Nat → Nat → Bool} {X : XM} {h : AH} (hT : TR g α ν X h) (hW : WX ν X) {s : Nat} (hs0 : (s : Int) < nS X) {c : Nat} (hc : (c : Int) < nC X) {t : Nat} (ht : (t : Int) < nC X) (hd : X 0 0 5 ≤ 5) (htk : tak X s c = true) (hct : ¬ c = t) (htt : tak X s t = false) (hcon : ¬ (mayT (eO (tkB X s) s (c : Int)) s t = true ∧ (eO (tkB X s) s (c : Int)) 9 s t < 3 ∧ 0 < free (eO (tkB X s) s (c : Int)) t ((eO (tkB X s) s (c : Int)) 4 s 0))) : Tu g α ν M_X11_swap 28 [.ref (α 0 0), .int (J (s : Int)), .int (J (c : Int)), .int (J (t : Int))] h "java/lang/UnsupportedOperationException" (fun X' => ∀ k, k ≠ 29 → X' k = X k) := by
  refine tu_of rfl rfl (ls := [some (.ref (α 0 0)), some (.int (J (s : Int))), some (.int (J (c : Int))), some (.int (J (t : Int))), none, none, none, none]) rfl (Nat.le_of_ble_eq_true rfl) ?_
  show Ev g M_X11_swap 28 0 [some (.ref (α 0 0)), some (.int (J (s : Int))), some (.int (J (c : Int))), some (.int (J (t : Int))), none, none, none, none] [] h 1 6 (VQ g α ν "java/lang/UnsupportedOperationException" (fun X' => ∀ k, k ≠ 29 → X' k = X k))
  have q1 := wo_nC hW.1
  have q3 := wo_nS hW.1
  have hs := wx_stu hW hs0
  have hl : s < 17 := by omega
  have ht2 : X 5 s c ≠ 0 := of_decide_eq_true htk
  have ht3 : X 5 s t = 0 := by simpa using of_decide_eq_false htt
  have hW00 := hW
  refine ev_ald0 1 dX11_swap_0 rfl ?_
  refine ev_ild1 2 dX11_swap_1 rfl ?_
  refine tc_V1 5 13 dX11_swap_2 lkv_X11_93 (tr0 hT) rfl rfl (by first | decide | omega) (Nat.le_of_ble_eq_true rfl) (c_X11_studentAt_ok hT hW (by omega)) ?_
  refine ev_ast4 7 dX11_swap_5 rfl (by decide) rfl ?_
  refine ev_ald0 8 dX11_swap_7 rfl ?_
  refine ev_ild2 9 dX11_swap_8 rfl ?_
  refine tc_V1 12 13 dX11_swap_9 lkv_X11_104 (tr0 hT) rfl rfl (by first | decide | omega) (Nat.le_of_ble_eq_true rfl) (c_X11_courseAt_ok hT hW (by omega)) ?_
  refine ev_pop 13 dX11_swap_12 rfl rfl ?_
  refine ev_ald0 14 dX11_swap_13 rfl ?_
  refine ev_ild3 15 dX11_swap_14 rfl ?_
  refine tc_V1 18 13 dX11_swap_15 lkv_X11_104 (tr0 hT) rfl rfl (by first | decide | omega) (Nat.le_of_ble_eq_true rfl) (c_X11_courseAt_ok hT hW (by omega)) ?_
  refine ev_ast5 20 dX11_swap_18 rfl (by decide) rfl ?_
  refine ev_ald0 21 dX11_swap_20 rfl ?_
  refine ev_getfield 24 13 5 fl_X11_180_13 (tr0 hT) rfl dX11_swap_21 rfl ?_
  refine tj_iconst 25 dX11_swap_24 rfl ?_
  refine tj_icmp_le 38 28 dX11_swap_25 (by decide) rfl (by first | exact TR.rng hT _ _ _ | exact R31_of _ | exact bi_R _ | (constructor <;> omega)) (by first | exact TR.rng hT _ _ _ | exact R31_of _ | exact bi_R _ | (constructor <;> omega)) (fun c25 => ?_) (fun c25 => ?_)
  · skip
    refine ev_ald4 40 dX11_swap_38 rfl ?_
    refine ev_getfield 43 10 1 fl_X11_214_10 (tr4 hT (by first | assumption | exact wx_crs hW (by omega)) (by omega)) rfl dX11_swap_40 rfl ?_
    refine ev_ild2 44 dX11_swap_43 rfl ?_
    refine tv_zald 45 (tr5 hT (by first | assumption | exact wx_crs hW (by omega)) (by omega)) (c) (by omega) (by omega) (by omega) dX11_swap_44 rfl ?_
    refine tj_if_ne 58 48 dX11_swap_45 (by decide) rfl (by first | exact TR.rng hT _ _ _ | exact R31_of _ | exact bi_R _ | (constructor <;> omega)) (fun c45 => ?_) (fun c45 => ?_)
    · skip
      refine ev_ild2 59 dX11_swap_58 rfl ?_
      refine ev_ild3 60 dX11_swap_59 rfl ?_
      refine tj_icmp_eq 73 63 dX11_swap_60 (by decide) rfl (by first | exact TR.rng hT _ _ _ | exact R31_of _ | exact bi_R _ | (constructor <;> omega)) (by first | exact TR.rng hT _ _ _ | exact R31_of _ | exact bi_R _ | (constructor <;> omega)) (fun c60 => ?_) (fun c60 => ?_)
      · exact False.elim (by omega)
      · skip
        refine ev_ald4 65 dX11_swap_63 rfl ?_
        refine ev_getfield 68 10 1 fl_X11_214_10 (tr4 hT (by first | assumption | exact wx_crs hW (by omega)) (by omega)) rfl dX11_swap_65 rfl ?_
        refine ev_ild3 69 dX11_swap_68 rfl ?_
        refine tv_zald 70 (tr5 hT (by first | assumption | exact wx_crs hW (by omega)) (by omega)) (t) (by omega) (by omega) (by omega) dX11_swap_69 rfl ?_
        refine tj_if_eq 83 73 dX11_swap_70 (by decide) rfl (by first | exact TR.rng hT _ _ _ | exact R31_of _ | exact bi_R _ | (constructor <;> omega)) (fun c70 => ?_) (fun c70 => ?_)
        · skip
          refine ev_ald4 85 dX11_swap_83 rfl ?_
          refine ev_getfield 88 10 1 fl_X11_214_10 (tr4 hT (by first | assumption | exact wx_crs hW (by omega)) (by omega)) rfl dX11_swap_85 rfl ?_
          refine tj_iconst 89 dX11_swap_88 rfl ?_
          refine ev_ald0 90 dX11_swap_89 rfl ?_
          refine ev_getfield 93 13 10 fl_X11_52_13 (tr0 hT) rfl dX11_swap_90 rfl ?_
          refine tj_iconst 94 dX11_swap_93 rfl ?_
          refine tj_bipush 96 dX11_swap_94 (by decide) rfl ?_
          refine tv_copyA 99 20 hT (tv5 hT hs (by omega)) (tv29 hT) (fun _ => rfl) (fun _ => rfl) (by decide) rfl rfl rfl (by decide) (by decide) (ki := 1) (ty := .boolean) rfl rfl (fun i hi => fits_z (wo_t01 hW.1 s i (by omega))) dX11_swap_96 acl_X11_244 (by decide) (Nat.le_of_ble_eq_true rfl) rfl (fun h hT => ?_)
          have hT : TR g α ν (tkB X s) h := hT
          obtain ⟨XB, hXB⟩ : ∃ Z, Z = tkB X s := ⟨_, rfl⟩
          rw [← hXB] at hT
          have hkB : ∀ k, k ≠ 29 → XB k = X k := fun k q => by rw [hXB]; exact tkB_k q
          have hW : WX ν XB := wx_29 hW00 hkB
          have e1B := hkB 1 (by decide)
          have htkB : tak XB s c = true := by unfold tak; rw [hkB 5 (by decide)]; exact htk
          have hsB : (s : Int) < nS XB := by unfold nS; rw [e1B]; exact hs0
          have hcB : (c : Int) < nC XB := by unfold nC; rw [e1B]; exact hc
          have hWB := hW
          refine ev_ald0 100 dX11_swap_99 rfl ?_
          refine ev_ald4 102 dX11_swap_100 rfl ?_
          refine ev_ild2 103 dX11_swap_102 rfl ?_
          refine tmv_V2 106 13 dX11_swap_103 lkv_X11_228 (tr0 hT) rfl rfl (by first | decide | omega) (Nat.le_of_ble_eq_true rfl) (c_X11_endWithOthers hT hW hsB hcB htkB) (fun h X1 hT hP103 => ?_)
          obtain ⟨XE, hXE⟩ : ∃ Z, Z = X1 := ⟨_, rfl⟩
          rw [← hXE] at hT hP103
          obtain ⟨hE, hW⟩ := hP103
          have e1E : XE 1 = X 1 := by rw [hE, eO, eN_k (by decide) (by decide) (by decide) (by decide)]; exact e1B
          have htE : (t : Int) < nC XE := by unfold nC; rw [e1E]; exact ht
          have hsE : (s : Int) < nS XE := by unfold nS; rw [e1E]; exact hs0
          have q1E := wo_nC hW.1
          have fr0 := free_0 hW.1 htE (XE 4 s 0)
          have t9E := wo_tri hW.1 s t hsE (by omega)
          rw [← hXB, ← hE] at hcon
          refine ev_ald0 107 dX11_swap_106 rfl ?_
          refine ev_ald4 109 dX11_swap_107 rfl ?_
          refine ev_ald5 111 dX11_swap_109 rfl ?_
          refine tc_V2 114 13 dX11_swap_111 lkv_X11_250 (tr0 hT) rfl rfl (by first | decide | omega) (Nat.le_of_ble_eq_true rfl) (c_X11_requisiteHolds hT hW hs hl htE) ?_
          refine tb_if_eq 146 117 dX11_swap_114 (by decide) rfl (fun c114 => ?_) (fun c114 => ?_)
          · skip
            refine tj_iconst 147 dX11_swap_146 rfl ?_
            refine ev_ist6 149 dX11_swap_147 rfl (by decide) rfl ?_
            refine ev_ald0 150 dX11_swap_149 rfl ?_
            refine ev_ald4 152 dX11_swap_150 rfl ?_
            refine ev_ald5 154 dX11_swap_152 rfl ?_
            refine tc_V2 157 13 dX11_swap_154 lkv_X11_261 (tr0 hT) rfl rfl (by first | decide | omega) (Nat.le_of_ble_eq_true rfl) (c_X11_canBear hT hW hs hl htE) ?_
            refine ev_ist7 159 dX11_swap_157 rfl (by decide) rfl ?_
            refine ev_ild6 161 dX11_swap_159 rfl ?_
            refine tj_if_eq 169 164 dX11_swap_161 (by decide) rfl (by first | exact TR.rng hT _ _ _ | exact R31_of _ | exact bi_R _ | (constructor <;> omega)) (fun c161 => ?_) (fun c161 => ?_)
            · skip
              refine ev_ald0 170 dX11_swap_169 rfl ?_
              refine ev_getfield 173 13 10 fl_X11_52_13 (tr0 hT) rfl dX11_swap_170 rfl ?_
              refine tj_iconst 174 dX11_swap_173 rfl ?_
              refine ev_ald4 176 dX11_swap_174 rfl ?_
              refine ev_getfield 179 10 1 fl_X11_214_10 (tr4 hT (by first | assumption | exact wx_crs hW (by omega)) (by omega)) rfl dX11_swap_176 rfl ?_
              refine tj_iconst 180 dX11_swap_179 rfl ?_
              refine tj_bipush 182 dX11_swap_180 (by decide) rfl ?_
              refine tv_copyA 185 20 hT (tv29 hT) (tv5 hT hs (by omega)) (fun _ => rfl) (fun _ => rfl) (by decide) rfl rfl rfl (by decide) (by decide) (ki := 1) (ty := .boolean) rfl rfl (fun i hi => fits_z (by rw [hE, eO, eN_k (by decide) (by decide) (by decide) (by decide), hXB]; unfold tkB; rw [xw_at, if_pos hi]; exact wo_t01 hW00.1 s i (by omega))) dX11_swap_182 acl_X11_244 (by decide) (Nat.le_of_ble_eq_true rfl) rfl (fun h hT => ?_)
              refine ev_ild6 187 dX11_swap_185 rfl ?_
              refine tj_if_ne 201 190 dX11_swap_187 (by decide) rfl (by first | exact TR.rng hT _ _ _ | exact R31_of _ | exact bi_R _ | (constructor <;> omega)) (fun c187 => ?_) (fun c187 => ?_)
              · exact False.elim (by omega)
              · skip
                exact ev_throwSW th_X11_199_264_203 rfl ⟨rfl, _, hT, (by exact sw_back (by rw [← hXB]; exact hWB.1) (by rw [← hXB]; exact hsB) (Or.inr ⟨c, rfl, by rw [← hXB]; exact hcB, by rw [← hXB]; exact htkB⟩) (by rw [← hXB]; exact hE) hd)⟩ (by decide) (by decide) dX11_swap_190 dX11_swap_193 dX11_swap_194 dX11_swap_197 dX11_swap_200 (by decide) (by decide)
            · exact False.elim (by omega)
          · skip
            refine ev_ald4 119 dX11_swap_117 rfl ?_
            refine ev_getfield 122 10 5 fl_X11_254_10 (tr4 hT (by first | assumption | exact wx_crs hW (by omega)) (by omega)) rfl dX11_swap_119 rfl ?_
            refine ev_ild3 123 dX11_swap_122 rfl ?_
            refine tv_iald 124 (tr9 hT (by first | assumption | exact wx_crs hW (by omega)) (by omega)) (t) (by omega) (by omega) (by omega) dX11_swap_123 rfl ?_
            refine tj_iconst 125 dX11_swap_124 rfl ?_
            refine tj_icmp_ge 146 128 dX11_swap_125 (by decide) rfl (by first | exact TR.rng hT _ _ _ | exact R31_of _ | exact bi_R _ | (constructor <;> omega)) (by first | exact TR.rng hT _ _ _ | exact R31_of _ | exact bi_R _ | (constructor <;> omega)) (fun c125 => ?_) (fun c125 => ?_)
            · skip
              refine tj_iconst 147 dX11_swap_146 rfl ?_
              refine ev_ist6 149 dX11_swap_147 rfl (by decide) rfl ?_
              refine ev_ald0 150 dX11_swap_149 rfl ?_
              refine ev_ald4 152 dX11_swap_150 rfl ?_
              refine ev_ald5 154 dX11_swap_152 rfl ?_
              refine tc_V2 157 13 dX11_swap_154 lkv_X11_261 (tr0 hT) rfl rfl (by first | decide | omega) (Nat.le_of_ble_eq_true rfl) (c_X11_canBear hT hW hs hl htE) ?_
              refine ev_ist7 159 dX11_swap_157 rfl (by decide) rfl ?_
              refine ev_ild6 161 dX11_swap_159 rfl ?_
              refine tj_if_eq 169 164 dX11_swap_161 (by decide) rfl (by first | exact TR.rng hT _ _ _ | exact R31_of _ | exact bi_R _ | (constructor <;> omega)) (fun c161 => ?_) (fun c161 => ?_)
              · skip
                refine ev_ald0 170 dX11_swap_169 rfl ?_
                refine ev_getfield 173 13 10 fl_X11_52_13 (tr0 hT) rfl dX11_swap_170 rfl ?_
                refine tj_iconst 174 dX11_swap_173 rfl ?_
                refine ev_ald4 176 dX11_swap_174 rfl ?_
                refine ev_getfield 179 10 1 fl_X11_214_10 (tr4 hT (by first | assumption | exact wx_crs hW (by omega)) (by omega)) rfl dX11_swap_176 rfl ?_
                refine tj_iconst 180 dX11_swap_179 rfl ?_
                refine tj_bipush 182 dX11_swap_180 (by decide) rfl ?_
                refine tv_copyA 185 20 hT (tv29 hT) (tv5 hT hs (by omega)) (fun _ => rfl) (fun _ => rfl) (by decide) rfl rfl rfl (by decide) (by decide) (ki := 1) (ty := .boolean) rfl rfl (fun i hi => fits_z (by rw [hE, eO, eN_k (by decide) (by decide) (by decide) (by decide), hXB]; unfold tkB; rw [xw_at, if_pos hi]; exact wo_t01 hW00.1 s i (by omega))) dX11_swap_182 acl_X11_244 (by decide) (Nat.le_of_ble_eq_true rfl) rfl (fun h hT => ?_)
                refine ev_ild6 187 dX11_swap_185 rfl ?_
                refine tj_if_ne 201 190 dX11_swap_187 (by decide) rfl (by first | exact TR.rng hT _ _ _ | exact R31_of _ | exact bi_R _ | (constructor <;> omega)) (fun c187 => ?_) (fun c187 => ?_)
                · exact False.elim (by omega)
                · skip
                  exact ev_throwSW th_X11_199_264_203 rfl ⟨rfl, _, hT, (by exact sw_back (by rw [← hXB]; exact hWB.1) (by rw [← hXB]; exact hsB) (Or.inr ⟨c, rfl, by rw [← hXB]; exact hcB, by rw [← hXB]; exact htkB⟩) (by rw [← hXB]; exact hE) hd)⟩ (by decide) (by decide) dX11_swap_190 dX11_swap_193 dX11_swap_194 dX11_swap_197 dX11_swap_200 (by decide) (by decide)
              · exact False.elim (by omega)
            · skip
              refine ev_ald0 129 dX11_swap_128 rfl ?_
              refine ev_ald5 131 dX11_swap_129 rfl ?_
              refine ev_ald4 133 dX11_swap_131 rfl ?_
              refine ev_getfield 136 10 0 fl_X11_97_10 (tr4 hT (by first | assumption | exact wx_crs hW (by omega)) (by omega)) rfl dX11_swap_133 rfl ?_
              refine tc_V2 139 13 dX11_swap_136 lkv_X11_257 (tr0 hT) rfl rfl (by first | decide | omega) (Nat.le_of_ble_eq_true rfl) (c_X11_freeFor hT hW htE (by first | exact TR.rng hT _ _ _ | exact R31_of _ | exact bi_R _ | (constructor <;> omega))) ?_
              refine tj_if_le 146 142 dX11_swap_139 (by decide) rfl (by first | exact TR.rng hT _ _ _ | exact R31_of _ | exact bi_R _ | (constructor <;> omega)) (fun c139 => ?_) (fun c139 => ?_)
              · skip
                refine tj_iconst 147 dX11_swap_146 rfl ?_
                refine ev_ist6 149 dX11_swap_147 rfl (by decide) rfl ?_
                refine ev_ald0 150 dX11_swap_149 rfl ?_
                refine ev_ald4 152 dX11_swap_150 rfl ?_
                refine ev_ald5 154 dX11_swap_152 rfl ?_
                refine tc_V2 157 13 dX11_swap_154 lkv_X11_261 (tr0 hT) rfl rfl (by first | decide | omega) (Nat.le_of_ble_eq_true rfl) (c_X11_canBear hT hW hs hl htE) ?_
                refine ev_ist7 159 dX11_swap_157 rfl (by decide) rfl ?_
                refine ev_ild6 161 dX11_swap_159 rfl ?_
                refine tj_if_eq 169 164 dX11_swap_161 (by decide) rfl (by first | exact TR.rng hT _ _ _ | exact R31_of _ | exact bi_R _ | (constructor <;> omega)) (fun c161 => ?_) (fun c161 => ?_)
                · skip
                  refine ev_ald0 170 dX11_swap_169 rfl ?_
                  refine ev_getfield 173 13 10 fl_X11_52_13 (tr0 hT) rfl dX11_swap_170 rfl ?_
                  refine tj_iconst 174 dX11_swap_173 rfl ?_
                  refine ev_ald4 176 dX11_swap_174 rfl ?_
                  refine ev_getfield 179 10 1 fl_X11_214_10 (tr4 hT (by first | assumption | exact wx_crs hW (by omega)) (by omega)) rfl dX11_swap_176 rfl ?_
                  refine tj_iconst 180 dX11_swap_179 rfl ?_
                  refine tj_bipush 182 dX11_swap_180 (by decide) rfl ?_
                  refine tv_copyA 185 20 hT (tv29 hT) (tv5 hT hs (by omega)) (fun _ => rfl) (fun _ => rfl) (by decide) rfl rfl rfl (by decide) (by decide) (ki := 1) (ty := .boolean) rfl rfl (fun i hi => fits_z (by rw [hE, eO, eN_k (by decide) (by decide) (by decide) (by decide), hXB]; unfold tkB; rw [xw_at, if_pos hi]; exact wo_t01 hW00.1 s i (by omega))) dX11_swap_182 acl_X11_244 (by decide) (Nat.le_of_ble_eq_true rfl) rfl (fun h hT => ?_)
                  refine ev_ild6 187 dX11_swap_185 rfl ?_
                  refine tj_if_ne 201 190 dX11_swap_187 (by decide) rfl (by first | exact TR.rng hT _ _ _ | exact R31_of _ | exact bi_R _ | (constructor <;> omega)) (fun c187 => ?_) (fun c187 => ?_)
                  · exact False.elim (by omega)
                  · skip
                    exact ev_throwSW th_X11_199_264_203 rfl ⟨rfl, _, hT, (by exact sw_back (by rw [← hXB]; exact hWB.1) (by rw [← hXB]; exact hsB) (Or.inr ⟨c, rfl, by rw [← hXB]; exact hcB, by rw [← hXB]; exact htkB⟩) (by rw [← hXB]; exact hE) hd)⟩ (by decide) (by decide) dX11_swap_190 dX11_swap_193 dX11_swap_194 dX11_swap_197 dX11_swap_200 (by decide) (by decide)
                · exact False.elim (by omega)
              · exact False.elim (hcon ⟨c114, by omega, by omega⟩)
        · exact False.elim (by omega)
    · exact False.elim (by omega)
  · exact False.elim (by omega)
set_option maxRecDepth 100000 in
set_option maxHeartbeats 4000000 in
theorem c_X11_swap_x6 {g : Gt} {α : AL} {ν : Nat → Nat → Bool} {X : XM} {h : AH} (hT : TR g α ν X h) (hW : WX ν X) {s : Nat} (hs0 : (s : Int) < nS X) {c : Nat} (hc : (c : Int) < nC X) {t : Nat} (ht : (t : Int) < nC X) (hd : X 0 0 5 ≤ 5) (htk : tak X s c = true) (hct : ¬ c = t) (htt : tak X s t = false) (hcon : (mayT (eO (tkB X s) s (c : Int)) s t = true ∧ (eO (tkB X s) s (c : Int)) 9 s t < 3 ∧ 0 < free (eO (tkB X s) s (c : Int)) t ((eO (tkB X s) s (c : Int)) 4 s 0)) ∧ fitsL (eO (tkB X s) s (c : Int)) s t = false) : Tu g α ν M_X11_swap 28 [.ref (α 0 0), .int (J (s : Int)), .int (J (c : Int)), .int (J (t : Int))] h "java/lang/ArithmeticException" (fun X' => ∀ k, k ≠ 29 → X' k = X k) := by
  refine tu_of rfl rfl (ls := [some (.ref (α 0 0)), some (.int (J (s : Int))), some (.int (J (c : Int))), some (.int (J (t : Int))), none, none, none, none]) rfl (Nat.le_of_ble_eq_true rfl) ?_
  show Ev g M_X11_swap 28 0 [some (.ref (α 0 0)), some (.int (J (s : Int))), some (.int (J (c : Int))), some (.int (J (t : Int))), none, none, none, none] [] h 1 6 (VQ g α ν "java/lang/ArithmeticException" (fun X' => ∀ k, k ≠ 29 → X' k = X k))
  have q1 := wo_nC hW.1
  have q3 := wo_nS hW.1
  have hs := wx_stu hW hs0
  have hl : s < 17 := by omega
  have ht2 : X 5 s c ≠ 0 := of_decide_eq_true htk
  have ht3 : X 5 s t = 0 := by simpa using of_decide_eq_false htt
  have hW00 := hW
  refine ev_ald0 1 dX11_swap_0 rfl ?_
  refine ev_ild1 2 dX11_swap_1 rfl ?_
  refine tc_V1 5 13 dX11_swap_2 lkv_X11_93 (tr0 hT) rfl rfl (by first | decide | omega) (Nat.le_of_ble_eq_true rfl) (c_X11_studentAt_ok hT hW (by omega)) ?_
  refine ev_ast4 7 dX11_swap_5 rfl (by decide) rfl ?_
  refine ev_ald0 8 dX11_swap_7 rfl ?_
  refine ev_ild2 9 dX11_swap_8 rfl ?_
  refine tc_V1 12 13 dX11_swap_9 lkv_X11_104 (tr0 hT) rfl rfl (by first | decide | omega) (Nat.le_of_ble_eq_true rfl) (c_X11_courseAt_ok hT hW (by omega)) ?_
  refine ev_pop 13 dX11_swap_12 rfl rfl ?_
  refine ev_ald0 14 dX11_swap_13 rfl ?_
  refine ev_ild3 15 dX11_swap_14 rfl ?_
  refine tc_V1 18 13 dX11_swap_15 lkv_X11_104 (tr0 hT) rfl rfl (by first | decide | omega) (Nat.le_of_ble_eq_true rfl) (c_X11_courseAt_ok hT hW (by omega)) ?_
  refine ev_ast5 20 dX11_swap_18 rfl (by decide) rfl ?_
  refine ev_ald0 21 dX11_swap_20 rfl ?_
  refine ev_getfield 24 13 5 fl_X11_180_13 (tr0 hT) rfl dX11_swap_21 rfl ?_
  refine tj_iconst 25 dX11_swap_24 rfl ?_
  refine tj_icmp_le 38 28 dX11_swap_25 (by decide) rfl (by first | exact TR.rng hT _ _ _ | exact R31_of _ | exact bi_R _ | (constructor <;> omega)) (by first | exact TR.rng hT _ _ _ | exact R31_of _ | exact bi_R _ | (constructor <;> omega)) (fun c25 => ?_) (fun c25 => ?_)
  · skip
    refine ev_ald4 40 dX11_swap_38 rfl ?_
    refine ev_getfield 43 10 1 fl_X11_214_10 (tr4 hT (by first | assumption | exact wx_crs hW (by omega)) (by omega)) rfl dX11_swap_40 rfl ?_
    refine ev_ild2 44 dX11_swap_43 rfl ?_
    refine tv_zald 45 (tr5 hT (by first | assumption | exact wx_crs hW (by omega)) (by omega)) (c) (by omega) (by omega) (by omega) dX11_swap_44 rfl ?_
    refine tj_if_ne 58 48 dX11_swap_45 (by decide) rfl (by first | exact TR.rng hT _ _ _ | exact R31_of _ | exact bi_R _ | (constructor <;> omega)) (fun c45 => ?_) (fun c45 => ?_)
    · skip
      refine ev_ild2 59 dX11_swap_58 rfl ?_
      refine ev_ild3 60 dX11_swap_59 rfl ?_
      refine tj_icmp_eq 73 63 dX11_swap_60 (by decide) rfl (by first | exact TR.rng hT _ _ _ | exact R31_of _ | exact bi_R _ | (constructor <;> omega)) (by first | exact TR.rng hT _ _ _ | exact R31_of _ | exact bi_R _ | (constructor <;> omega)) (fun c60 => ?_) (fun c60 => ?_)
      · exact False.elim (by omega)
      · skip
        refine ev_ald4 65 dX11_swap_63 rfl ?_
        refine ev_getfield 68 10 1 fl_X11_214_10 (tr4 hT (by first | assumption | exact wx_crs hW (by omega)) (by omega)) rfl dX11_swap_65 rfl ?_
        refine ev_ild3 69 dX11_swap_68 rfl ?_
        refine tv_zald 70 (tr5 hT (by first | assumption | exact wx_crs hW (by omega)) (by omega)) (t) (by omega) (by omega) (by omega) dX11_swap_69 rfl ?_
        refine tj_if_eq 83 73 dX11_swap_70 (by decide) rfl (by first | exact TR.rng hT _ _ _ | exact R31_of _ | exact bi_R _ | (constructor <;> omega)) (fun c70 => ?_) (fun c70 => ?_)
        · skip
          refine ev_ald4 85 dX11_swap_83 rfl ?_
          refine ev_getfield 88 10 1 fl_X11_214_10 (tr4 hT (by first | assumption | exact wx_crs hW (by omega)) (by omega)) rfl dX11_swap_85 rfl ?_
          refine tj_iconst 89 dX11_swap_88 rfl ?_
          refine ev_ald0 90 dX11_swap_89 rfl ?_
          refine ev_getfield 93 13 10 fl_X11_52_13 (tr0 hT) rfl dX11_swap_90 rfl ?_
          refine tj_iconst 94 dX11_swap_93 rfl ?_
          refine tj_bipush 96 dX11_swap_94 (by decide) rfl ?_
          refine tv_copyA 99 20 hT (tv5 hT hs (by omega)) (tv29 hT) (fun _ => rfl) (fun _ => rfl) (by decide) rfl rfl rfl (by decide) (by decide) (ki := 1) (ty := .boolean) rfl rfl (fun i hi => fits_z (wo_t01 hW.1 s i (by omega))) dX11_swap_96 acl_X11_244 (by decide) (Nat.le_of_ble_eq_true rfl) rfl (fun h hT => ?_)
          have hT : TR g α ν (tkB X s) h := hT
          obtain ⟨XB, hXB⟩ : ∃ Z, Z = tkB X s := ⟨_, rfl⟩
          rw [← hXB] at hT
          have hkB : ∀ k, k ≠ 29 → XB k = X k := fun k q => by rw [hXB]; exact tkB_k q
          have hW : WX ν XB := wx_29 hW00 hkB
          have e1B := hkB 1 (by decide)
          have htkB : tak XB s c = true := by unfold tak; rw [hkB 5 (by decide)]; exact htk
          have hsB : (s : Int) < nS XB := by unfold nS; rw [e1B]; exact hs0
          have hcB : (c : Int) < nC XB := by unfold nC; rw [e1B]; exact hc
          have hWB := hW
          refine ev_ald0 100 dX11_swap_99 rfl ?_
          refine ev_ald4 102 dX11_swap_100 rfl ?_
          refine ev_ild2 103 dX11_swap_102 rfl ?_
          refine tmv_V2 106 13 dX11_swap_103 lkv_X11_228 (tr0 hT) rfl rfl (by first | decide | omega) (Nat.le_of_ble_eq_true rfl) (c_X11_endWithOthers hT hW hsB hcB htkB) (fun h X1 hT hP103 => ?_)
          obtain ⟨XE, hXE⟩ : ∃ Z, Z = X1 := ⟨_, rfl⟩
          rw [← hXE] at hT hP103
          obtain ⟨hE, hW⟩ := hP103
          have e1E : XE 1 = X 1 := by rw [hE, eO, eN_k (by decide) (by decide) (by decide) (by decide)]; exact e1B
          have htE : (t : Int) < nC XE := by unfold nC; rw [e1E]; exact ht
          have hsE : (s : Int) < nS XE := by unfold nS; rw [e1E]; exact hs0
          have q1E := wo_nC hW.1
          have fr0 := free_0 hW.1 htE (XE 4 s 0)
          have t9E := wo_tri hW.1 s t hsE (by omega)
          rw [← hXB, ← hE] at hcon
          refine ev_ald0 107 dX11_swap_106 rfl ?_
          refine ev_ald4 109 dX11_swap_107 rfl ?_
          refine ev_ald5 111 dX11_swap_109 rfl ?_
          refine tc_V2 114 13 dX11_swap_111 lkv_X11_250 (tr0 hT) rfl rfl (by first | decide | omega) (Nat.le_of_ble_eq_true rfl) (c_X11_requisiteHolds hT hW hs hl htE) ?_
          refine tb_if_eq 146 117 dX11_swap_114 (by decide) rfl (fun c114 => ?_) (fun c114 => ?_)
          · exact False.elim (Bool.false_ne_true (c114.symm.trans hcon.1.1))
          · skip
            refine ev_ald4 119 dX11_swap_117 rfl ?_
            refine ev_getfield 122 10 5 fl_X11_254_10 (tr4 hT (by first | assumption | exact wx_crs hW (by omega)) (by omega)) rfl dX11_swap_119 rfl ?_
            refine ev_ild3 123 dX11_swap_122 rfl ?_
            refine tv_iald 124 (tr9 hT (by first | assumption | exact wx_crs hW (by omega)) (by omega)) (t) (by omega) (by omega) (by omega) dX11_swap_123 rfl ?_
            refine tj_iconst 125 dX11_swap_124 rfl ?_
            refine tj_icmp_ge 146 128 dX11_swap_125 (by decide) rfl (by first | exact TR.rng hT _ _ _ | exact R31_of _ | exact bi_R _ | (constructor <;> omega)) (by first | exact TR.rng hT _ _ _ | exact R31_of _ | exact bi_R _ | (constructor <;> omega)) (fun c125 => ?_) (fun c125 => ?_)
            · exact False.elim (by have := hcon.1.2.1; omega)
            · skip
              refine ev_ald0 129 dX11_swap_128 rfl ?_
              refine ev_ald5 131 dX11_swap_129 rfl ?_
              refine ev_ald4 133 dX11_swap_131 rfl ?_
              refine ev_getfield 136 10 0 fl_X11_97_10 (tr4 hT (by first | assumption | exact wx_crs hW (by omega)) (by omega)) rfl dX11_swap_133 rfl ?_
              refine tc_V2 139 13 dX11_swap_136 lkv_X11_257 (tr0 hT) rfl rfl (by first | decide | omega) (Nat.le_of_ble_eq_true rfl) (c_X11_freeFor hT hW htE (by first | exact TR.rng hT _ _ _ | exact R31_of _ | exact bi_R _ | (constructor <;> omega))) ?_
              refine tj_if_le 146 142 dX11_swap_139 (by decide) rfl (by first | exact TR.rng hT _ _ _ | exact R31_of _ | exact bi_R _ | (constructor <;> omega)) (fun c139 => ?_) (fun c139 => ?_)
              · exact False.elim (by have := hcon.1.2.2; omega)
              · skip
                refine tj_iconst 143 dX11_swap_142 rfl ?_
                refine ev_goto 147 dX11_swap_143 (by decide) ?_
                refine ev_ist6 149 dX11_swap_147 rfl (by decide) rfl ?_
                refine ev_ald0 150 dX11_swap_149 rfl ?_
                refine ev_ald4 152 dX11_swap_150 rfl ?_
                refine ev_ald5 154 dX11_swap_152 rfl ?_
                refine tc_V2 157 13 dX11_swap_154 lkv_X11_261 (tr0 hT) rfl rfl (by first | decide | omega) (Nat.le_of_ble_eq_true rfl) (c_X11_canBear hT hW hs hl htE) ?_
                refine ev_ist7 159 dX11_swap_157 rfl (by decide) rfl ?_
                refine ev_ild6 161 dX11_swap_159 rfl ?_
                refine tj_if_eq 169 164 dX11_swap_161 (by decide) rfl (by first | exact TR.rng hT _ _ _ | exact R31_of _ | exact bi_R _ | (constructor <;> omega)) (fun c161 => ?_) (fun c161 => ?_)
                · exact False.elim (by omega)
                · skip
                  refine ev_ild7 166 dX11_swap_164 rfl ?_
                  refine tb_if_ne 185 169 dX11_swap_166 (by decide) rfl (fun c166 => ?_) (fun c166 => ?_)
                  · exact False.elim (Bool.false_ne_true (hcon.2.symm.trans c166))
                  · skip
                    refine ev_ald0 170 dX11_swap_169 rfl ?_
                    refine ev_getfield 173 13 10 fl_X11_52_13 (tr0 hT) rfl dX11_swap_170 rfl ?_
                    refine tj_iconst 174 dX11_swap_173 rfl ?_
                    refine ev_ald4 176 dX11_swap_174 rfl ?_
                    refine ev_getfield 179 10 1 fl_X11_214_10 (tr4 hT (by first | assumption | exact wx_crs hW (by omega)) (by omega)) rfl dX11_swap_176 rfl ?_
                    refine tj_iconst 180 dX11_swap_179 rfl ?_
                    refine tj_bipush 182 dX11_swap_180 (by decide) rfl ?_
                    refine tv_copyA 185 20 hT (tv29 hT) (tv5 hT hs (by omega)) (fun _ => rfl) (fun _ => rfl) (by decide) rfl rfl rfl (by decide) (by decide) (ki := 1) (ty := .boolean) rfl rfl (fun i hi => fits_z (by rw [hE, eO, eN_k (by decide) (by decide) (by decide) (by decide), hXB]; unfold tkB; rw [xw_at, if_pos hi]; exact wo_t01 hW00.1 s i (by omega))) dX11_swap_182 acl_X11_244 (by decide) (Nat.le_of_ble_eq_true rfl) rfl (fun h hT => ?_)
                    refine ev_ild6 187 dX11_swap_185 rfl ?_
                    refine tj_if_ne 201 190 dX11_swap_187 (by decide) rfl (by first | exact TR.rng hT _ _ _ | exact R31_of _ | exact bi_R _ | (constructor <;> omega)) (fun c187 => ?_) (fun c187 => ?_)
                    · skip
                      refine ev_ild7 203 dX11_swap_201 rfl ?_
                      refine tb_if_ne 216 206 dX11_swap_203 (by decide) rfl (fun c203 => ?_) (fun c203 => ?_)
                      · exact False.elim (Bool.false_ne_true (hcon.2.symm.trans c203))
                      · skip
                        exact ev_throwS th_X11_204_206_208 rfl ⟨rfl, _, hT, (by exact sw_back (by rw [← hXB]; exact hWB.1) (by rw [← hXB]; exact hsB) (Or.inr ⟨c, rfl, by rw [← hXB]; exact hcB, by rw [← hXB]; exact htkB⟩) (by rw [← hXB]; exact hE) hd)⟩ (by decide) (by decide) dX11_swap_206 dX11_swap_209 dX11_swap_210 dX11_swap_212 dX11_swap_215 (by decide) (by decide)
                    · exact False.elim (by omega)
        · exact False.elim (by omega)
    · exact False.elim (by omega)
  · exact False.elim (by omega)
set_option maxRecDepth 100000 in
set_option maxHeartbeats 4000000 in
theorem c_X11_swap_ok {g : Gt} {α : AL} {ν : Nat → Nat → Bool} {X : XM} {h : AH} (hT : TR g α ν X h) (hW : WX ν X) {s : Nat} (hs0 : (s : Int) < nS X) {c : Nat} (hc : (c : Int) < nC X) {t : Nat} (ht : (t : Int) < nC X) (hd : X 0 0 5 ≤ 5) (htk : tak X s c = true) (hct : ¬ c = t) (htt : tak X s t = false) (hcon : (mayT (eO (tkB X s) s (c : Int)) s t = true ∧ (eO (tkB X s) s (c : Int)) 9 s t < 3 ∧ 0 < free (eO (tkB X s) s (c : Int)) t ((eO (tkB X s) s (c : Int)) 4 s 0)) ∧ fitsL (eO (tkB X s) s (c : Int)) s t = true) : Mu g α ν M_X11_swap 28 [.ref (α 0 0), .int (J (s : Int)), .int (J (c : Int)), .int (J (t : Int))] h (some (.int (J (load (gv (xs (sw (eO (tkB X s) s (c : Int)) t s) 5 s t 1)) s)))) (fun X' => X' = gv (xs (sw (eO (tkB X s) s (c : Int)) t s) 5 s t 1) ∧ WX ν X') := by
  refine mu_of rfl rfl (ls := [some (.ref (α 0 0)), some (.int (J (s : Int))), some (.int (J (c : Int))), some (.int (J (t : Int))), none, none, none, none]) rfl (Nat.le_of_ble_eq_true rfl) ?_
  show Ev g M_X11_swap 28 0 [some (.ref (α 0 0)), some (.int (J (s : Int))), some (.int (J (c : Int))), some (.int (J (t : Int))), none, none, none, none] [] h 0 0 (UQ g α ν (some (.int (J (load (gv (xs (sw (eO (tkB X s) s (c : Int)) t s) 5 s t 1)) s)))) (fun X' => X' = gv (xs (sw (eO (tkB X s) s (c : Int)) t s) 5 s t 1) ∧ WX ν X'))
  have q1 := wo_nC hW.1
  have q3 := wo_nS hW.1
  have hs := wx_stu hW hs0
  have hl : s < 17 := by omega
  have ht2 : X 5 s c ≠ 0 := of_decide_eq_true htk
  have ht3 : X 5 s t = 0 := by simpa using of_decide_eq_false htt
  have hW00 := hW
  refine ev_ald0 1 dX11_swap_0 rfl ?_
  refine ev_ild1 2 dX11_swap_1 rfl ?_
  refine tc_V1 5 13 dX11_swap_2 lkv_X11_93 (tr0 hT) rfl rfl (by first | decide | omega) (Nat.le_of_ble_eq_true rfl) (c_X11_studentAt_ok hT hW (by omega)) ?_
  refine ev_ast4 7 dX11_swap_5 rfl (by decide) rfl ?_
  refine ev_ald0 8 dX11_swap_7 rfl ?_
  refine ev_ild2 9 dX11_swap_8 rfl ?_
  refine tc_V1 12 13 dX11_swap_9 lkv_X11_104 (tr0 hT) rfl rfl (by first | decide | omega) (Nat.le_of_ble_eq_true rfl) (c_X11_courseAt_ok hT hW (by omega)) ?_
  refine ev_pop 13 dX11_swap_12 rfl rfl ?_
  refine ev_ald0 14 dX11_swap_13 rfl ?_
  refine ev_ild3 15 dX11_swap_14 rfl ?_
  refine tc_V1 18 13 dX11_swap_15 lkv_X11_104 (tr0 hT) rfl rfl (by first | decide | omega) (Nat.le_of_ble_eq_true rfl) (c_X11_courseAt_ok hT hW (by omega)) ?_
  refine ev_ast5 20 dX11_swap_18 rfl (by decide) rfl ?_
  refine ev_ald0 21 dX11_swap_20 rfl ?_
  refine ev_getfield 24 13 5 fl_X11_180_13 (tr0 hT) rfl dX11_swap_21 rfl ?_
  refine tj_iconst 25 dX11_swap_24 rfl ?_
  refine tj_icmp_le 38 28 dX11_swap_25 (by decide) rfl (by first | exact TR.rng hT _ _ _ | exact R31_of _ | exact bi_R _ | (constructor <;> omega)) (by first | exact TR.rng hT _ _ _ | exact R31_of _ | exact bi_R _ | (constructor <;> omega)) (fun c25 => ?_) (fun c25 => ?_)
  · skip
    refine ev_ald4 40 dX11_swap_38 rfl ?_
    refine ev_getfield 43 10 1 fl_X11_214_10 (tr4 hT (by first | assumption | exact wx_crs hW (by omega)) (by omega)) rfl dX11_swap_40 rfl ?_
    refine ev_ild2 44 dX11_swap_43 rfl ?_
    refine tv_zald 45 (tr5 hT (by first | assumption | exact wx_crs hW (by omega)) (by omega)) (c) (by omega) (by omega) (by omega) dX11_swap_44 rfl ?_
    refine tj_if_ne 58 48 dX11_swap_45 (by decide) rfl (by first | exact TR.rng hT _ _ _ | exact R31_of _ | exact bi_R _ | (constructor <;> omega)) (fun c45 => ?_) (fun c45 => ?_)
    · skip
      refine ev_ild2 59 dX11_swap_58 rfl ?_
      refine ev_ild3 60 dX11_swap_59 rfl ?_
      refine tj_icmp_eq 73 63 dX11_swap_60 (by decide) rfl (by first | exact TR.rng hT _ _ _ | exact R31_of _ | exact bi_R _ | (constructor <;> omega)) (by first | exact TR.rng hT _ _ _ | exact R31_of _ | exact bi_R _ | (constructor <;> omega)) (fun c60 => ?_) (fun c60 => ?_)
      · exact False.elim (by omega)
      · skip
        refine ev_ald4 65 dX11_swap_63 rfl ?_
        refine ev_getfield 68 10 1 fl_X11_214_10 (tr4 hT (by first | assumption | exact wx_crs hW (by omega)) (by omega)) rfl dX11_swap_65 rfl ?_
        refine ev_ild3 69 dX11_swap_68 rfl ?_
        refine tv_zald 70 (tr5 hT (by first | assumption | exact wx_crs hW (by omega)) (by omega)) (t) (by omega) (by omega) (by omega) dX11_swap_69 rfl ?_
        refine tj_if_eq 83 73 dX11_swap_70 (by decide) rfl (by first | exact TR.rng hT _ _ _ | exact R31_of _ | exact bi_R _ | (constructor <;> omega)) (fun c70 => ?_) (fun c70 => ?_)
        · skip
          refine ev_ald4 85 dX11_swap_83 rfl ?_
          refine ev_getfield 88 10 1 fl_X11_214_10 (tr4 hT (by first | assumption | exact wx_crs hW (by omega)) (by omega)) rfl dX11_swap_85 rfl ?_
          refine tj_iconst 89 dX11_swap_88 rfl ?_
          refine ev_ald0 90 dX11_swap_89 rfl ?_
          refine ev_getfield 93 13 10 fl_X11_52_13 (tr0 hT) rfl dX11_swap_90 rfl ?_
          refine tj_iconst 94 dX11_swap_93 rfl ?_
          refine tj_bipush 96 dX11_swap_94 (by decide) rfl ?_
          refine tv_copyA 99 20 hT (tv5 hT hs (by omega)) (tv29 hT) (fun _ => rfl) (fun _ => rfl) (by decide) rfl rfl rfl (by decide) (by decide) (ki := 1) (ty := .boolean) rfl rfl (fun i hi => fits_z (wo_t01 hW.1 s i (by omega))) dX11_swap_96 acl_X11_244 (by decide) (Nat.le_of_ble_eq_true rfl) rfl (fun h hT => ?_)
          have hT : TR g α ν (tkB X s) h := hT
          obtain ⟨XB, hXB⟩ : ∃ Z, Z = tkB X s := ⟨_, rfl⟩
          rw [← hXB] at hT
          have hkB : ∀ k, k ≠ 29 → XB k = X k := fun k q => by rw [hXB]; exact tkB_k q
          have hW : WX ν XB := wx_29 hW00 hkB
          have e1B := hkB 1 (by decide)
          have htkB : tak XB s c = true := by unfold tak; rw [hkB 5 (by decide)]; exact htk
          have hsB : (s : Int) < nS XB := by unfold nS; rw [e1B]; exact hs0
          have hcB : (c : Int) < nC XB := by unfold nC; rw [e1B]; exact hc
          have hWB := hW
          refine ev_ald0 100 dX11_swap_99 rfl ?_
          refine ev_ald4 102 dX11_swap_100 rfl ?_
          refine ev_ild2 103 dX11_swap_102 rfl ?_
          refine tmv_V2 106 13 dX11_swap_103 lkv_X11_228 (tr0 hT) rfl rfl (by first | decide | omega) (Nat.le_of_ble_eq_true rfl) (c_X11_endWithOthers hT hW hsB hcB htkB) (fun h X1 hT hP103 => ?_)
          obtain ⟨XE, hXE⟩ : ∃ Z, Z = X1 := ⟨_, rfl⟩
          rw [← hXE] at hT hP103
          obtain ⟨hE, hW⟩ := hP103
          have e1E : XE 1 = X 1 := by rw [hE, eO, eN_k (by decide) (by decide) (by decide) (by decide)]; exact e1B
          have htE : (t : Int) < nC XE := by unfold nC; rw [e1E]; exact ht
          have hsE : (s : Int) < nS XE := by unfold nS; rw [e1E]; exact hs0
          have q1E := wo_nC hW.1
          have fr0 := free_0 hW.1 htE (XE 4 s 0)
          have t9E := wo_tri hW.1 s t hsE (by omega)
          rw [← hXB, ← hE] at hcon
          refine ev_ald0 107 dX11_swap_106 rfl ?_
          refine ev_ald4 109 dX11_swap_107 rfl ?_
          refine ev_ald5 111 dX11_swap_109 rfl ?_
          refine tc_V2 114 13 dX11_swap_111 lkv_X11_250 (tr0 hT) rfl rfl (by first | decide | omega) (Nat.le_of_ble_eq_true rfl) (c_X11_requisiteHolds hT hW hs hl htE) ?_
          refine tb_if_eq 146 117 dX11_swap_114 (by decide) rfl (fun c114 => ?_) (fun c114 => ?_)
          · exact False.elim (Bool.false_ne_true (c114.symm.trans hcon.1.1))
          · skip
            refine ev_ald4 119 dX11_swap_117 rfl ?_
            refine ev_getfield 122 10 5 fl_X11_254_10 (tr4 hT (by first | assumption | exact wx_crs hW (by omega)) (by omega)) rfl dX11_swap_119 rfl ?_
            refine ev_ild3 123 dX11_swap_122 rfl ?_
            refine tv_iald 124 (tr9 hT (by first | assumption | exact wx_crs hW (by omega)) (by omega)) (t) (by omega) (by omega) (by omega) dX11_swap_123 rfl ?_
            refine tj_iconst 125 dX11_swap_124 rfl ?_
            refine tj_icmp_ge 146 128 dX11_swap_125 (by decide) rfl (by first | exact TR.rng hT _ _ _ | exact R31_of _ | exact bi_R _ | (constructor <;> omega)) (by first | exact TR.rng hT _ _ _ | exact R31_of _ | exact bi_R _ | (constructor <;> omega)) (fun c125 => ?_) (fun c125 => ?_)
            · exact False.elim (by have := hcon.1.2.1; omega)
            · skip
              refine ev_ald0 129 dX11_swap_128 rfl ?_
              refine ev_ald5 131 dX11_swap_129 rfl ?_
              refine ev_ald4 133 dX11_swap_131 rfl ?_
              refine ev_getfield 136 10 0 fl_X11_97_10 (tr4 hT (by first | assumption | exact wx_crs hW (by omega)) (by omega)) rfl dX11_swap_133 rfl ?_
              refine tc_V2 139 13 dX11_swap_136 lkv_X11_257 (tr0 hT) rfl rfl (by first | decide | omega) (Nat.le_of_ble_eq_true rfl) (c_X11_freeFor hT hW htE (by first | exact TR.rng hT _ _ _ | exact R31_of _ | exact bi_R _ | (constructor <;> omega))) ?_
              refine tj_if_le 146 142 dX11_swap_139 (by decide) rfl (by first | exact TR.rng hT _ _ _ | exact R31_of _ | exact bi_R _ | (constructor <;> omega)) (fun c139 => ?_) (fun c139 => ?_)
              · exact False.elim (by have := hcon.1.2.2; omega)
              · skip
                refine tj_iconst 143 dX11_swap_142 rfl ?_
                refine ev_goto 147 dX11_swap_143 (by decide) ?_
                refine ev_ist6 149 dX11_swap_147 rfl (by decide) rfl ?_
                refine ev_ald0 150 dX11_swap_149 rfl ?_
                refine ev_ald4 152 dX11_swap_150 rfl ?_
                refine ev_ald5 154 dX11_swap_152 rfl ?_
                refine tc_V2 157 13 dX11_swap_154 lkv_X11_261 (tr0 hT) rfl rfl (by first | decide | omega) (Nat.le_of_ble_eq_true rfl) (c_X11_canBear hT hW hs hl htE) ?_
                refine ev_ist7 159 dX11_swap_157 rfl (by decide) rfl ?_
                refine ev_ild6 161 dX11_swap_159 rfl ?_
                refine tj_if_eq 169 164 dX11_swap_161 (by decide) rfl (by first | exact TR.rng hT _ _ _ | exact R31_of _ | exact bi_R _ | (constructor <;> omega)) (fun c161 => ?_) (fun c161 => ?_)
                · exact False.elim (by omega)
                · skip
                  refine ev_ild7 166 dX11_swap_164 rfl ?_
                  refine tb_if_ne 185 169 dX11_swap_166 (by decide) rfl (fun c166 => ?_) (fun c166 => ?_)
                  · skip
                    refine ev_ild6 187 dX11_swap_185 rfl ?_
                    refine tj_if_ne 201 190 dX11_swap_187 (by decide) rfl (by first | exact TR.rng hT _ _ _ | exact R31_of _ | exact bi_R _ | (constructor <;> omega)) (fun c187 => ?_) (fun c187 => ?_)
                    · skip
                      refine ev_ild7 203 dX11_swap_201 rfl ?_
                      refine tb_if_ne 216 206 dX11_swap_203 (by decide) rfl (fun c203 => ?_) (fun c203 => ?_)
                      · skip
                        refine ev_ald5 218 dX11_swap_216 rfl ?_
                        refine ev_ald4 220 dX11_swap_218 rfl ?_
                        refine tmv_V1 223 5 dX11_swap_220 lkv_X11_232 (tr12 hT (by first | assumption | exact wx_crs hW (by omega))) rfl rfl (by first | decide | omega) (Nat.le_of_ble_eq_true rfl) (c_X2_stopWaiting hT hW htE hs hl) (fun h X1 hT hP220 => ?_)
                        have hP220 : X1 = sw XE t s := hP220
                        obtain ⟨XS, hXS⟩ : ∃ Z, Z = X1 := ⟨_, rfl⟩
                        rw [← hXS] at hT hP220
                        have hWS : WX ν XS := by rw [hP220]; exact wx_sw hW htE
                        refine ev_ald4 225 dX11_swap_223 rfl ?_
                        refine ev_getfield 228 10 1 fl_X11_214_10 (tr4 hT (by first | assumption | exact wx_crs hW (by omega)) (by omega)) rfl dX11_swap_225 rfl ?_
                        refine ev_ild3 229 dX11_swap_228 rfl ?_
                        refine tj_iconst 230 dX11_swap_229 rfl ?_
                        refine tv_zast 231 hT (tv5 hT (by first | assumption | exact wx_crs hW (by omega)) (by omega)) (fun _ => rfl) (t) (by omega) (by omega) (by omega) (by first | omega | exact bi_01 _) dX11_swap_230 rfl (fun h hT => ?_)
                        obtain ⟨X3, hX3⟩ : ∃ Z, Z = xs XS 5 s t 1 := ⟨_, rfl⟩
                        rw [← hX3] at hT
                        have e9S : XS 9 = XE 9 := by rw [hP220]; exact sw_k (by decide) (by decide)
                        have hW : WX ν X3 := by rw [hX3]; exact ⟨wo_t1 hWS.1 (by unfold nS; rw [hP220, sw_l _ (by decide), e1E]; exact hs0) (by unfold nC; rw [hP220, sw_l _ (by decide), e1E]; exact ht) (by rw [e9S]; have := hcon.1.2.1; omega), wv_t1 hWS.2 _ _ _⟩
                        refine ev_ald0 232 dX11_swap_231 rfl ?_
                        refine tmv_V0 235 13 dX11_swap_232 lkv_X11_101 (tr0 hT) rfl rfl (by first | decide | omega) (Nat.le_of_ble_eq_true rfl) (c_X11_giveOutSeats hT hW) (fun h X1 hT hP232 => ?_)
                        have hW := hP232.2
                        have hFin : X1 = gv (xs (sw (eO (tkB X s) s (c : Int)) t s) 5 s t 1) := by rw [hP232.1, hX3, hP220, hE, hXB]
                        refine ev_ald0 236 dX11_swap_235 rfl ?_
                        refine ev_ald4 238 dX11_swap_236 rfl ?_
                        refine tc_V1 241 13 dX11_swap_238 lkv_X11_266 (tr0 hT) rfl rfl (by first | decide | omega) (Nat.le_of_ble_eq_true rfl) (c_X11_loadOn hT hW hs hl) ?_
                        exact ev_ireturn (uq_i (by first | rfl | omega | exact bi_dt (by omega) | exact bi_df (by omega) | (rw [hFin])) hT (by exact ⟨hFin, hP232.2⟩)) rfl dX11_swap_241
                      · exact False.elim (Bool.false_ne_true (c203.symm.trans hcon.2))
                    · exact False.elim (by omega)
                  · exact False.elim (Bool.false_ne_true (c166.symm.trans hcon.2))
        · exact False.elim (by omega)
    · exact False.elim (by omega)
  · exact False.elim (by omega)
