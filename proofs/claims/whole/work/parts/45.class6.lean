/-! THE CLASS: sums, last marks, reasons -/
set_option maxRecDepth 100000 in
set_option maxHeartbeats 4000000 in
theorem c_X11_allEarned {g : Gt} {α : AL} {ν : Nat → Nat → Bool} {X : XM} {h : AH} (hT : TR g α ν X h) (hW : WX ν X) : Pr g M_X11_allEarned 28 [.ref (α 0 0)] h (some (.long (Int64.ofInt (allE X (nS X).toNat)))) := by
  refine pr_of rfl rfl (ls := [some (.ref (α 0 0)), none, none, none]) rfl (Nat.le_of_ble_eq_true rfl) ?_
  show Ev g M_X11_allEarned 28 0 [some (.ref (α 0 0)), none, none, none] [] h 0 0 (PQ (some (.long (Int64.ofInt (allE X (nS X).toNat)))) h)
  have q1 := wo_nC hW.1
  have q3 := wo_nS hW.1
  refine ev_lconst (Int64.ofNat 0) 1 dX11_allEarned_0 rfl rfl ?_
  refine ev_lst1 2 dX11_allEarned_1 rfl (by decide) rfl ?_
  refine tj_iconst 3 dX11_allEarned_2 rfl ?_
  refine ev_ist3 4 dX11_allEarned_3 rfl (by decide) rfl ?_
  have lp4 : ∀ (n4 : Nat) (s : Nat) (z1 : Int64) (z3 : Int) , 16 - s < n4 → ((s : Int) ≤ nS X) → z1 = Int64.ofInt (allE X s) → z3 = (s : Int) → Ev g M_X11_allEarned 28 4 [some (.ref (α 0 0)), some (.long z1), none, some (.int (J z3))] [] h 0 0 (PQ (some (.long (Int64.ofInt (allE X (nS X).toNat)))) h) := by
    intro n4
    induction n4 with
    | zero => intro s z1 z3 hm; exact absurd hm (Nat.not_lt_zero _)
    | succ n4 ih4 =>
      intro s z1 z3 hm4 hs e1 e3
      subst e1
      subst e3
      have qe : 0 ≤ ernd X s ∧ ernd X s ≤ 6 * ((nC X).toNat : Int) := crS_0 hW.1 (psd X s) (nC X).toNat (by omega)
      refine ev_ild3 5 dX11_allEarned_4 rfl ?_
      refine ev_ald0 6 dX11_allEarned_5 rfl ?_
      refine ev_getfield 9 13 1 fl_X11_16_13 (tr0 hT) rfl dX11_allEarned_6 rfl ?_
      refine tc_V0 12 2 dX11_allEarned_9 lkv_X11_70 (tr1_1 hT) rfl rfl (by first | decide | omega) (Nat.le_of_ble_eq_true rfl) (z_S hT hW) ?_
      refine tj_icmp_ge 40 15 dX11_allEarned_12 (by decide) rfl (by first | exact TR.rng hT _ _ _ | exact R31_of _ | exact bi_R _ | (constructor <;> omega)) (by first | exact TR.rng hT _ _ _ | exact R31_of _ | exact bi_R _ | (constructor <;> omega)) (fun c12 => ?_) (fun c12 => ?_)
      · skip
        refine ev_lld1 41 dX11_allEarned_40 rfl ?_
        exact ev_lreturn ⟨by rw [show s = (nS X).toNat by omega], rfl⟩ rfl dX11_allEarned_41
      · skip
        refine ev_lld1 16 dX11_allEarned_15 rfl ?_
        refine ev_ald0 17 dX11_allEarned_16 rfl ?_
        refine ev_ald0 18 dX11_allEarned_17 rfl ?_
        refine ev_getfield 21 13 1 fl_X11_16_13 (tr0 hT) rfl dX11_allEarned_18 rfl ?_
        refine ev_ild3 22 dX11_allEarned_21 rfl ?_
        refine tc_V1 25 2 dX11_allEarned_22 lkv_X11_276 (tr1_1 hT) rfl rfl (by first | decide | omega) (Nat.le_of_ble_eq_true rfl) (g_S hT hW (by omega)) ?_
        refine ev_castS 28 dX11_allEarned_25 cl_X11_29 (tr4 hT (by first | assumption | exact wx_stu hW (by omega) | exact wx_crs hW (by omega) | exact wx_new hW) (by omega)) rfl rfl ?_
        refine tc_V1 31 13 dX11_allEarned_28 lkv_X11_305 (tr0 hT) rfl rfl (by first | decide | omega) (Nat.le_of_ble_eq_true rfl) (c_X11_creditsEarned hT hW (by first | assumption | exact wx_stu hW (by omega) | exact wx_new hW) (by omega)) ?_
        refine ev_i2l 32 dX11_allEarned_31 rfl ?_
        rw [J_i2l _ (by first | exact TR.rng hT _ _ _ | exact R31_of _ | exact bi_R _ | (constructor <;> omega))]
        refine ev_ladd 33 dX11_allEarned_32 rfl ?_
        refine ev_lst1 34 dX11_allEarned_33 rfl (by decide) rfl ?_
        refine tj_inc3 37 dX11_allEarned_34 rfl (by decide) rfl ?_
        refine ev_goto 4 dX11_allEarned_37 (by decide) ?_
        exact ih4 (s + 1) _ _ (by omega) (by first | omega | assumption | omega) (by first | rfl | omega | (first | decide | (rw [← Int64.ofInt_add]; rfl))) (by first | rfl | omega | (first | decide | (rw [← Int64.ofInt_add]; rfl)))
  exact lp4 _ (0) _ _ (Nat.lt_succ_self _) (by first | omega | assumption | omega) (by first | rfl | omega | (first | decide | (rw [← Int64.ofInt_add]; rfl))) (by first | rfl | omega | (first | decide | (rw [← Int64.ofInt_add]; rfl)))
set_option maxRecDepth 100000 in
set_option maxHeartbeats 4000000 in
theorem c_X8_lastMark {g : Gt} {α : AL} {ν : Nat → Nat → Bool} {X : XM} {h : AH} (hT : TR g α ν X h) (hW : WX ν X) {s : Nat} (hs0 : (s : Int) < nS X) {c : Nat} (hc : c < 20) : Pr g M_X8_lastMark 0 [.ref (α 4 s), .int (J (c : Int))] h (some (.int (J (lastM X s c)))) := by
  refine pr_of rfl rfl (ls := [some (.ref (α 4 s)), some (.int (J (c : Int))), none, none]) rfl (Nat.le_of_ble_eq_true rfl) ?_
  show Ev g M_X8_lastMark 0 0 [some (.ref (α 4 s)), some (.int (J (c : Int))), none, none] [] h 0 0 (PQ (some (.int (J (lastM X s c)))) h)
  have q1 := wo_nC hW.1
  have q3 := wo_nS hW.1
  have hs := wx_stu hW hs0
  have hl : s < 17 := by omega
  have q5 := wo_tri hW.1 s c hs0 hc
  have hs11 : ν 4 ((20 * s + c) / 20) = true := by rw [show (20 * s + c) / 20 = s by omega]; exact hs
  refine tj_iconst 1 dX8_lastMark_0 rfl ?_
  refine ev_ist2 2 dX8_lastMark_1 rfl (by decide) rfl ?_
  refine tj_iconst 3 dX8_lastMark_2 rfl ?_
  refine ev_ist3 4 dX8_lastMark_3 rfl (by decide) rfl ?_
  have lp4 : ∀ (n4 : Nat) (k : Nat) (z2 : Int) (z3 : Int) , 4 - k < n4 → ((k : Int) ≤ X 9 s c) → z2 = lmT X s c k → z3 = (k : Int) → Ev g M_X8_lastMark 0 4 [some (.ref (α 4 s)), some (.int (J (c : Int))), some (.int (J z2)), some (.int (J z3))] [] h 0 0 (PQ (some (.int (J (lastM X s c)))) h) := by
    intro n4
    induction n4 with
    | zero => intro k z2 z3 hm; exact absurd hm (Nat.not_lt_zero _)
    | succ n4 ih4 =>
      intro k z2 z3 hm4 hk e2 e3
      subst e2
      subst e3
      refine ev_ild3 5 dX8_lastMark_4 rfl ?_
      refine ev_ald0 6 dX8_lastMark_5 rfl ?_
      refine ev_getfield 9 10 5 fl_X8_25_10 (tr4 hT (by first | assumption | exact wx_stu hW (by omega) | exact wx_crs hW (by omega) | exact wx_new hW) (by omega)) rfl dX8_lastMark_6 rfl ?_
      refine ev_ild1 10 dX8_lastMark_9 rfl ?_
      refine tv_iald 11 (tr9 hT (by first | assumption | exact wx_stu hW (by omega) | exact wx_crs hW (by omega) | exact wx_new hW) (by omega)) (c) (by omega) (by omega) (by omega) dX8_lastMark_10 rfl ?_
      refine tj_icmp_ge 41 14 dX8_lastMark_11 (by decide) rfl (by first | exact TR.rng hT _ _ _ | exact R31_of _ | exact bi_R _ | (constructor <;> omega)) (by first | exact TR.rng hT _ _ _ | exact R31_of _ | exact bi_R _ | (constructor <;> omega)) (fun c11 => ?_) (fun c11 => ?_)
      · skip
        refine ev_ild2 42 dX8_lastMark_41 rfl ?_
        exact ev_ireturn (pq_i (by first | rfl | omega | exact bi_dt (by omega) | exact bi_df (by omega) | (rw [lastM, show k = (X 9 s c).toNat by omega]))) rfl dX8_lastMark_42
      · skip
        have q7 := wo_trd hW.1 s c k hs0 hc (by omega)
        have q8 := lmT_R hW.1 hs0 hc k hk
        refine ev_ald0 15 dX8_lastMark_14 rfl ?_
        refine ev_getfield 18 10 6 fl_X8_30_10 (tr4 hT (by first | assumption | exact wx_stu hW (by omega) | exact wx_crs hW (by omega) | exact wx_new hW) (by omega)) rfl dX8_lastMark_15 rfl ?_
        refine ev_ild1 19 dX8_lastMark_18 rfl ?_
        refine tv_aald4 20 (tr10 hT (by first | assumption | exact wx_stu hW (by omega) | exact wx_crs hW (by omega) | exact wx_new hW) (by omega)) (c) (by omega) (by omega) (by omega) (if_pos hc) dX8_lastMark_19 rfl ?_
        refine ev_ild3 21 dX8_lastMark_20 rfl ?_
        refine tv_iald 22 (tr11 hT (by first | assumption | exact wx_stu hW (by omega) | exact wx_crs hW (by omega) | exact wx_new hW) (by omega)) (k) (by omega) (by omega) (by omega) dX8_lastMark_21 rfl ?_
        refine tj_iconst 23 dX8_lastMark_22 rfl ?_
        refine tj_icmp_eq 35 26 dX8_lastMark_23 (by decide) rfl (by first | exact TR.rng hT _ _ _ | exact R31_of _ | exact bi_R _ | (constructor <;> omega)) (by first | exact TR.rng hT _ _ _ | exact R31_of _ | exact bi_R _ | (constructor <;> omega)) (fun c23 => ?_) (fun c23 => ?_)
        · skip
          refine tj_inc3 38 dX8_lastMark_35 rfl (by decide) rfl ?_
          refine ev_goto 4 dX8_lastMark_38 (by decide) ?_
          exact ih4 (k + 1) _ _ (by omega) (by first | omega | assumption | omega) (by first | rfl | omega | (simp only [lmT]; split <;> omega)) (by first | rfl | omega | (simp only [lmT]; split <;> omega))
        · skip
          refine ev_ald0 27 dX8_lastMark_26 rfl ?_
          refine ev_getfield 30 10 6 fl_X8_30_10 (tr4 hT (by first | assumption | exact wx_stu hW (by omega) | exact wx_crs hW (by omega) | exact wx_new hW) (by omega)) rfl dX8_lastMark_27 rfl ?_
          refine ev_ild1 31 dX8_lastMark_30 rfl ?_
          refine tv_aald4 32 (tr10 hT (by first | assumption | exact wx_stu hW (by omega) | exact wx_crs hW (by omega) | exact wx_new hW) (by omega)) (c) (by omega) (by omega) (by omega) (if_pos hc) dX8_lastMark_31 rfl ?_
          refine ev_ild3 33 dX8_lastMark_32 rfl ?_
          refine tv_iald 34 (tr11 hT (by first | assumption | exact wx_stu hW (by omega) | exact wx_crs hW (by omega) | exact wx_new hW) (by omega)) (k) (by omega) (by omega) (by omega) dX8_lastMark_33 rfl ?_
          refine ev_ist2 35 dX8_lastMark_34 rfl (by decide) rfl ?_
          refine tj_inc3 38 dX8_lastMark_35 rfl (by decide) rfl ?_
          refine ev_goto 4 dX8_lastMark_38 (by decide) ?_
          exact ih4 (k + 1) _ _ (by omega) (by first | omega | assumption | omega) (by first | rfl | omega | (simp only [lmT]; split <;> omega)) (by first | rfl | omega | (simp only [lmT]; split <;> omega))
  exact lp4 _ (0) _ _ (Nat.lt_succ_self _) (by first | omega | assumption | omega) (by first | rfl | omega | (simp only [lmT]; split <;> omega)) (by first | rfl | omega | (simp only [lmT]; split <;> omega))
/-- what a formula blames, by the truths -/
def bl (X : XM) (f : Nat) (T : Int64) : Int := if X 16 f 9 = 3 then (if lb T (X 16 f 2).toNat = false then X 16 f 2 else if lb T (X 16 f 3).toNat = true then X 16 f 4 else X 16 f 3) else -1
theorem bl_cg {X X1 : XM} (e : X1 16 = X 16) (f : Nat) (T : Int64) : bl X1 f T = bl X f T := by unfold bl; rw [e]
theorem bl_e {X : XM} {f : Nat} {T : Int64} (h : X 16 f 9 ≠ 3) : bl X f T = -1 := if_neg h
theorem bl_3 {X : XM} (hO : WO X) {s f : Nat} (hf : (f : Int) < nF X) (h3 : X 16 f 9 = 3) (hh : hol X s f = false) : bl X f (truS X s) = (nx X s f : Int) := by
  obtain ⟨b1, b2, b3, b4, b5, b6, b7, b8, b9, b10, b11⟩ := wo_f3 hO f hf h3
  have q := (nx_of hO hf h3 hh).2.1
  unfold bl
  rw [if_pos h3, lb_S hO s (by omega), lb_S hO s (by omega)]
  unfold nx at q ⊢
  cases c : hol X s (X 16 f 2).toNat
  · rw [if_pos rfl, if_neg (by decide)]; omega
  · rw [c, if_pos rfl] at q
    rw [q, if_neg (by decide), if_neg (by decide), if_pos rfl]; omega
theorem bl_R {X : XM} (hO : WO X) {s f : Nat} (hf : (f : Int) < nF X) (hh : hol X s f = false) : -1 ≤ bl X f (truS X s) ∧ bl X f (truS X s) < 60 := by
  have hF := wo_nF hO
  by_cases z : X 16 f 9 = 3
  · have q := (nx_of hO hf z hh).1
    rw [bl_3 hO hf z hh]
    omega
  · rw [bl_e z]; omega
set_option maxRecDepth 100000 in
set_option maxHeartbeats 4000000 in
theorem c_X4_partToBlame {g : Gt} {α : AL} {ν : Nat → Nat → Bool} {X : XM} {h : AH} (hT : TR g α ν X h) {f : Nat} (hf : ν 16 f = true) {T : Int64} (hk : X 16 f 9 ≠ 3) : Pr g M_X4_partToBlame 1 [.ref (α 16 f), .long T] h (some (.int (J (bl X f T)))) := by
  refine pr_of rfl rfl (ls := [some (.ref (α 16 f)), some (.long T), none]) rfl (Nat.le_of_ble_eq_true rfl) ?_
  show Ev g M_X4_partToBlame 1 0 [some (.ref (α 16 f)), some (.long T), none] [] h 0 0 (PQ (some (.int (J (bl X f T)))) h)
  refine tj_iconst 1 dX4_partToBlame_0 rfl ?_
  exact ev_ireturn (pq_i (by first | rfl | omega | exact bi_dt (by omega) | exact bi_df (by omega) | (rw [bl_e hk]))) rfl dX4_partToBlame_1
set_option maxRecDepth 100000 in
set_option maxHeartbeats 4000000 in
theorem c_X1_partToBlame {g : Gt} {α : AL} {ν : Nat → Nat → Bool} {X : XM} {h : AH} (hT : TR g α ν X h) {f : Nat} (hf : ν 16 f = true) {T : Int64} (hk : X 16 f 9 = 3) (h1 : 0 ≤ X 16 f 2 ∧ X 16 f 2 < 60 ∧ 0 ≤ X 16 f 3 ∧ X 16 f 3 < 60) : Pr g M_X1_partToBlame 1 [.ref (α 16 f), .long T] h (some (.int (J (bl X f T)))) := by
  refine pr_of rfl rfl (ls := [some (.ref (α 16 f)), some (.long T), none]) rfl (Nat.le_of_ble_eq_true rfl) ?_
  show Ev g M_X1_partToBlame 1 0 [some (.ref (α 16 f)), some (.long T), none] [] h 0 0 (PQ (some (.int (J (bl X f T)))) h)
  refine ev_ald0 1 dX1_partToBlame_0 rfl ?_
  refine ev_getfield 4 4 2 fl_X1_15_4 (fc_3 hT hf hk) rfl dX1_partToBlame_1 rfl ?_
  refine ev_lld1 5 dX1_partToBlame_4 rfl ?_
  refine tc_SN2 8 dX1_partToBlame_5 lkn_X1_24 st_X11_isMet rfl (by first | decide | omega) (Nat.le_of_ble_eq_true rfl) (isMet_n (by omega)) ?_
  refine tb_if_ne 16 11 dX1_partToBlame_8 (by decide) rfl (fun c8 => ?_) (fun c8 => ?_)
  · skip
    refine ev_ald0 17 dX1_partToBlame_16 rfl ?_
    refine ev_getfield 20 4 3 fl_X1_18_4 (fc_3 hT hf hk) rfl dX1_partToBlame_17 rfl ?_
    refine ev_lld1 21 dX1_partToBlame_20 rfl ?_
    refine tc_SN2 24 dX1_partToBlame_21 lkn_X1_24 st_X11_isMet rfl (by first | decide | omega) (Nat.le_of_ble_eq_true rfl) (isMet_n (by omega)) ?_
    refine tb_if_eq 34 27 dX1_partToBlame_24 (by decide) rfl (fun c24 => ?_) (fun c24 => ?_)
    · skip
      refine ev_ald0 35 dX1_partToBlame_34 rfl ?_
      refine ev_getfield 38 4 3 fl_X1_18_4 (fc_3 hT hf hk) rfl dX1_partToBlame_35 rfl ?_
      exact ev_ireturn (pq_i (by first | rfl | omega | exact bi_dt (by omega) | exact bi_df (by omega) | (unfold bl; rw [if_pos hk]; simp [*]; done))) rfl dX1_partToBlame_38
    · skip
      refine ev_ald0 28 dX1_partToBlame_27 rfl ?_
      refine ev_getfield 31 4 4 fl_X1_21_4 (fc_3 hT hf hk) rfl dX1_partToBlame_28 rfl ?_
      refine ev_goto 38 dX1_partToBlame_31 (by decide) ?_
      exact ev_ireturn (pq_i (by first | rfl | omega | exact bi_dt (by omega) | exact bi_df (by omega) | (unfold bl; rw [if_pos hk]; simp [*]; done))) rfl dX1_partToBlame_38
  · skip
    refine ev_ald0 12 dX1_partToBlame_11 rfl ?_
    refine ev_getfield 15 4 2 fl_X1_15_4 (fc_3 hT hf hk) rfl dX1_partToBlame_12 rfl ?_
    exact ev_ireturn (pq_i (by first | rfl | omega | exact bi_dt (by omega) | exact bi_df (by omega) | (unfold bl; rw [if_pos hk]; simp [*]; done))) rfl dX1_partToBlame_15
section RU5
variable {g : Gt} {α : AL} {ν : Nat → Nat → Bool} {X : XM} {M M2 : Mt} {d d1 pc : Nat} {ls : List (Option Value)} {st : List Value} {h : AH} {mc ms : Nat} {Q : RT → AH → Prop}
theorem tc_blame {f : Nat} {T : Int64} (n : Nat) (hd : decode (mC M) pc = .ok (.invokevirtual 418, 3)) (hcl : (mY M).cls = RX11) (hT : TR g α ν X h) (hW : WX ν X) (hf : (f : Int) < nF X) (hn : pc + 3 = n) (hd1 : 1 < d) (hcat : (st.map fun v => v.category).sum ≤ 8) (kk : Ev g M d n ls (.int (J (bl X f T)) :: st) h mc ms Q) : Ev g M d pc ls (.long T :: .ref (α 16 f) :: st) h mc ms Q := by
  have h0 := wo_fk hW.1 f hf
  have hv := wx_frm hW hf
  have hF := wo_nF hW.1
  rcases (show X 16 f 9 = 0 ∨ X 16 f 9 = 1 ∨ X 16 f 9 = 2 ∨ X 16 f 9 = 3 ∨ X 16 f 9 = 4 by omega) with e0 | e0 | e0 | e0 | e0
  · exact tc_U1 (C := "Prereqs$MarkFormula") n hd (by rw [hcl]; exact lku_partToBlame_X5) dcl_partToBlame (fc_0 hT hv e0) rfl hn hd1 hcat (c_X4_partToBlame hT hv (by omega)) kk
  · exact tc_U1 (C := "Prereqs$TogetherFormula") n hd (by rw [hcl]; exact lku_partToBlame_X9) dcl_partToBlame (fc_1 hT hv e0) rfl hn hd1 hcat (c_X4_partToBlame hT hv (by omega)) kk
  · exact tc_U1 (C := "Prereqs$CreditsFormula") n hd (by rw [hcl]; exact lku_partToBlame_X3) dcl_partToBlame (fc_2 hT hv e0) rfl hn hd1 hcat (c_X4_partToBlame hT hv (by omega)) kk
  · obtain ⟨b1, b2, b3, b4, b5⟩ := wo_f3 hW.1 f hf e0
    exact tc_U1 (C := "Prereqs$CountFormula") n hd (by rw [hcl]; exact lku_partToBlame_X1) dcl_partToBlame (fc_3 hT hv e0) rfl hn hd1 hcat (c_X1_partToBlame hT hv e0 (by omega)) kk
  · exact tc_U1 (C := "Prereqs$NoneFormula") n hd (by rw [hcl]; exact lku_partToBlame_X6) dcl_partToBlame (fc_4 hT hv e0) rfl hn hd1 hcat (c_X4_partToBlame hT hv (by omega)) kk
end RU5
set_option maxRecDepth 100000 in
set_option maxHeartbeats 4000000 in
theorem c_X11_fillReason_b1 {g : Gt} {α : AL} {ν : Nat → Nat → Bool} {X : XM} {h : AH} (hT : TR g α ν X h) (hW : WX ν X) {b : Int} (hb : R31 b) (hn : ¬ (0 ≤ b ∧ b < nS X)) {a1 : Int} (ha1 : R31 a1) : Th g M_X11_fillReason 9 [.ref (α 0 0), .int (J b), .int (J a1)] h "java/lang/IndexOutOfBoundsException" := by
  refine th_of rfl rfl (ls := [some (.ref (α 0 0)), some (.int (J b)), some (.int (J a1)), none, none, none, none, none]) rfl (Nat.le_of_ble_eq_true rfl) ?_
  show Ev g M_X11_fillReason 9 0 [some (.ref (α 0 0)), some (.int (J b)), some (.int (J a1)), none, none, none, none, none] [] h 1 6 (TQ "java/lang/IndexOutOfBoundsException" h)
  have q1 := wo_nC hW.1
  have q3 := wo_nS hW.1
  refine ev_ald0 1 dX11_fillReason_0 rfl ?_
  refine ev_ild1 2 dX11_fillReason_1 rfl ?_
  exact tx_V1 5 13 dX11_fillReason_2 lkv_X11_93 (tr0 hT) rfl rfl (by first | decide | omega) (Nat.le_of_ble_eq_true rfl) rfl (by decide) (by decide) (c_X11_studentAt_no hT hW hb hn) ⟨rfl, rfl⟩
set_option maxRecDepth 100000 in
set_option maxHeartbeats 4000000 in
theorem c_X11_fillReason_b2 {g : Gt} {α : AL} {ν : Nat → Nat → Bool} {X : XM} {h : AH} (hT : TR g α ν X h) (hW : WX ν X) {s : Nat} (hs0 : (s : Int) < nS X) {b : Int} (hb : R31 b) (hn : ¬ (0 ≤ b ∧ b < nC X)) : Th g M_X11_fillReason 9 [.ref (α 0 0), .int (J (s : Int)), .int (J b)] h "java/lang/IndexOutOfBoundsException" := by
  refine th_of rfl rfl (ls := [some (.ref (α 0 0)), some (.int (J (s : Int))), some (.int (J b)), none, none, none, none, none]) rfl (Nat.le_of_ble_eq_true rfl) ?_
  show Ev g M_X11_fillReason 9 0 [some (.ref (α 0 0)), some (.int (J (s : Int))), some (.int (J b)), none, none, none, none, none] [] h 1 6 (TQ "java/lang/IndexOutOfBoundsException" h)
  have q1 := wo_nC hW.1
  have q3 := wo_nS hW.1
  have hs := wx_stu hW hs0
  have hl : s < 17 := by omega
  refine ev_ald0 1 dX11_fillReason_0 rfl ?_
  refine ev_ild1 2 dX11_fillReason_1 rfl ?_
  refine tc_V1 5 13 dX11_fillReason_2 lkv_X11_93 (tr0 hT) rfl rfl (by first | decide | omega) (Nat.le_of_ble_eq_true rfl) (c_X11_studentAt_ok hT hW (by omega)) ?_
  refine ev_ast3 6 dX11_fillReason_5 rfl (by decide) rfl ?_
  refine ev_ald0 7 dX11_fillReason_6 rfl ?_
  refine ev_ild2 8 dX11_fillReason_7 rfl ?_
  exact tx_V1 11 13 dX11_fillReason_8 lkv_X11_104 (tr0 hT) rfl rfl (by first | decide | omega) (Nat.le_of_ble_eq_true rfl) rfl (by decide) (by decide) (c_X11_courseAt_no hT hW hb hn) ⟨rfl, rfl⟩
set_option maxRecDepth 100000 in
set_option maxHeartbeats 4000000 in
theorem c_X11_fillReason_x2 {g : Gt} {α : AL} {ν : Nat → Nat → Bool} {X : XM} {h : AH} (hT : TR g α ν X h) (hW : WX ν X)  {s : Nat} (hs0 : (s : Int) < nS X) {c : Nat} (hc : (c : Int) < nC X) (hq : X 12 c 5 = -1) : Th g M_X11_fillReason 9 [.ref (α 0 0), .int (J (s : Int)), .int (J (c : Int))] h "java/util/NoSuchElementException" := by
  refine th_of rfl rfl (ls := [some (.ref (α 0 0)), some (.int (J (s : Int))), some (.int (J (c : Int))), none, none, none, none, none]) rfl (Nat.le_of_ble_eq_true rfl) ?_
  show Ev g M_X11_fillReason 9 0 [some (.ref (α 0 0)), some (.int (J (s : Int))), some (.int (J (c : Int))), none, none, none, none, none] [] h 1 6 (TQ "java/util/NoSuchElementException" h)
  have q1 := wo_nC hW.1
  have q3 := wo_nS hW.1
  have hs := wx_stu hW hs0
  have hl : s < 17 := by omega
  have qr := wo_req hW.1 c hc
  have qf := wo_nF hW.1
  refine ev_ald0 1 dX11_fillReason_0 rfl ?_
  refine ev_ild1 2 dX11_fillReason_1 rfl ?_
  refine tc_V1 5 13 dX11_fillReason_2 lkv_X11_93 (tr0 hT) rfl rfl (by first | decide | omega) (Nat.le_of_ble_eq_true rfl) (c_X11_studentAt_ok hT hW (by omega)) ?_
  refine ev_ast3 6 dX11_fillReason_5 rfl (by decide) rfl ?_
  refine ev_ald0 7 dX11_fillReason_6 rfl ?_
  refine ev_ild2 8 dX11_fillReason_7 rfl ?_
  refine tc_V1 11 13 dX11_fillReason_8 lkv_X11_104 (tr0 hT) rfl rfl (by first | decide | omega) (Nat.le_of_ble_eq_true rfl) (c_X11_courseAt_ok hT hW (by omega)) ?_
  refine ev_getfield 14 5 5 fl_X11_175_5 (tr12 hT (by first | assumption | exact wx_stu hW (by omega) | exact wx_crs hW (by omega) | exact wx_new hW)) rfl dX11_fillReason_11 rfl ?_
  refine ev_ist4 16 dX11_fillReason_14 rfl (by decide) rfl ?_
  refine ev_ild4 18 dX11_fillReason_16 rfl ?_
  refine tj_iconst 19 dX11_fillReason_18 rfl ?_
  refine tj_icmp_ne 33 22 dX11_fillReason_19 (by decide) rfl (by first | exact TR.rng hT _ _ _ | exact R31_of _ | exact bi_R _ | (constructor <;> omega)) (by first | exact TR.rng hT _ _ _ | exact R31_of _ | exact bi_R _ | (constructor <;> omega)) (fun c19 => ?_) (fun c19 => ?_)
  · exact False.elim (by omega)
  · skip
    exact ev_throwNW tn_X11_209_414_213 rfl ⟨rfl, rfl⟩ (by decide) (Nat.le_of_ble_eq_true rfl) dX11_fillReason_22 dX11_fillReason_25 dX11_fillReason_26 dX11_fillReason_29 dX11_fillReason_32 (by decide) (by decide)
set_option maxRecDepth 100000 in
set_option maxHeartbeats 4000000 in
theorem c_X11_fillReason_x3 {g : Gt} {α : AL} {ν : Nat → Nat → Bool} {X : XM} {h : AH} (hT : TR g α ν X h) (hW : WX ν X)  {s : Nat} (hs0 : (s : Int) < nS X) {c : Nat} (hc : (c : Int) < nC X) (hq : X 12 c 5 ≠ -1) (hh : hol X s (X 12 c 5).toNat = true) : Th g M_X11_fillReason 9 [.ref (α 0 0), .int (J (s : Int)), .int (J (c : Int))] h "java/lang/IllegalStateException" := by
  refine th_of rfl rfl (ls := [some (.ref (α 0 0)), some (.int (J (s : Int))), some (.int (J (c : Int))), none, none, none, none, none]) rfl (Nat.le_of_ble_eq_true rfl) ?_
  show Ev g M_X11_fillReason 9 0 [some (.ref (α 0 0)), some (.int (J (s : Int))), some (.int (J (c : Int))), none, none, none, none, none] [] h 1 6 (TQ "java/lang/IllegalStateException" h)
  have q1 := wo_nC hW.1
  have q3 := wo_nS hW.1
  have hs := wx_stu hW hs0
  have hl : s < 17 := by omega
  have qr := wo_req hW.1 c hc
  have qf := wo_nF hW.1
  refine ev_ald0 1 dX11_fillReason_0 rfl ?_
  refine ev_ild1 2 dX11_fillReason_1 rfl ?_
  refine tc_V1 5 13 dX11_fillReason_2 lkv_X11_93 (tr0 hT) rfl rfl (by first | decide | omega) (Nat.le_of_ble_eq_true rfl) (c_X11_studentAt_ok hT hW (by omega)) ?_
  refine ev_ast3 6 dX11_fillReason_5 rfl (by decide) rfl ?_
  refine ev_ald0 7 dX11_fillReason_6 rfl ?_
  refine ev_ild2 8 dX11_fillReason_7 rfl ?_
  refine tc_V1 11 13 dX11_fillReason_8 lkv_X11_104 (tr0 hT) rfl rfl (by first | decide | omega) (Nat.le_of_ble_eq_true rfl) (c_X11_courseAt_ok hT hW (by omega)) ?_
  refine ev_getfield 14 5 5 fl_X11_175_5 (tr12 hT (by first | assumption | exact wx_stu hW (by omega) | exact wx_crs hW (by omega) | exact wx_new hW)) rfl dX11_fillReason_11 rfl ?_
  refine ev_ist4 16 dX11_fillReason_14 rfl (by decide) rfl ?_
  refine ev_ild4 18 dX11_fillReason_16 rfl ?_
  refine tj_iconst 19 dX11_fillReason_18 rfl ?_
  refine tj_icmp_ne 33 22 dX11_fillReason_19 (by decide) rfl (by first | exact TR.rng hT _ _ _ | exact R31_of _ | exact bi_R _ | (constructor <;> omega)) (by first | exact TR.rng hT _ _ _ | exact R31_of _ | exact bi_R _ | (constructor <;> omega)) (fun c19 => ?_) (fun c19 => ?_)
  · skip
    refine ev_ald0 34 dX11_fillReason_33 rfl ?_
    refine ev_ald3 35 dX11_fillReason_34 rfl ?_
    refine tc_V1 38 13 dX11_fillReason_35 lkv_X11_167 (tr0 hT) rfl rfl (by first | decide | omega) (Nat.le_of_ble_eq_true rfl) (c_X11_truthsFor hT hW (by first | assumption | exact wx_stu hW (by omega)) (by omega)) ?_
    refine ev_lst5 40 dX11_fillReason_38 rfl (by decide) rfl ?_
    refine ev_ild4 42 dX11_fillReason_40 rfl ?_
    refine ev_lld5 44 dX11_fillReason_42 rfl ?_
    refine tc_S2 47 dX11_fillReason_44 lks_X11_171 rfl (by first | decide | omega) (Nat.le_of_ble_eq_true rfl) (isMet_S hW.1 (by omega)) ?_
    refine tb_if_eq 61 50 dX11_fillReason_47 (by decide) rfl (fun c47 => ?_) (fun c47 => ?_)
    · exact False.elim (Bool.false_ne_true (c47.symm.trans hh))
    · skip
      exact ev_throwSW th_X11_74_416_78 rfl ⟨rfl, rfl⟩ (by decide) (by decide) dX11_fillReason_50 dX11_fillReason_53 dX11_fillReason_54 dX11_fillReason_57 dX11_fillReason_60 (by decide) (by decide)
  · exact False.elim (by omega)
set_option maxRecDepth 100000 in
set_option maxHeartbeats 4000000 in
theorem c_X11_fillReason_ok {g : Gt} {α : AL} {ν : Nat → Nat → Bool} {X : XM} {h : AH} (hT : TR g α ν X h) (hW : WX ν X) {s : Nat} (hs0 : (s : Int) < nS X) {c : Nat} (hc : (c : Int) < nC X) (hq : X 12 c 5 ≠ -1) (hh : hol X s (X 12 c 5).toNat = false) : Mu g α ν M_X11_fillReason 9 [.ref (α 0 0), .int (J (s : Int)), .int (J (c : Int))] h (some (.int (J ((rsnC X s c).1 : Int)))) (fun X' => (∀ kk, kk ≠ 30 → X' kk = X kk) ∧ X' 30 0 ((rsnC X s c).1 - 1) = ((rsnC X s c).2 : Int) ∧ 1 ≤ (rsnC X s c).1 ∧ (rsnC X s c).1 ≤ 6) := by
  refine mu_of rfl rfl (ls := [some (.ref (α 0 0)), some (.int (J (s : Int))), some (.int (J (c : Int))), none, none, none, none, none]) rfl (Nat.le_of_ble_eq_true rfl) ?_
  show Ev g M_X11_fillReason 9 0 [some (.ref (α 0 0)), some (.int (J (s : Int))), some (.int (J (c : Int))), none, none, none, none, none] [] h 0 0 (UQ g α ν (some (.int (J ((rsnC X s c).1 : Int)))) (fun X' => (∀ kk, kk ≠ 30 → X' kk = X kk) ∧ X' 30 0 ((rsnC X s c).1 - 1) = ((rsnC X s c).2 : Int) ∧ 1 ≤ (rsnC X s c).1 ∧ (rsnC X s c).1 ≤ 6))
  have q1 := wo_nC hW.1
  have q3 := wo_nS hW.1
  have hs := wx_stu hW hs0
  have hl : s < 17 := by omega
  have qr := wo_req hW.1 c hc
  have qf := wo_nF hW.1
  obtain ⟨r, hr⟩ : ∃ r : Nat, X 12 c 5 = (r : Int) := ⟨(X 12 c 5).toNat, by omega⟩
  have q7 := wo_dep hW.1 r (by omega)
  have hr2 : (X 12 c 5).toNat = r := by omega
  have hW0 := hW
  have hO := hW.1
  refine ev_ald0 1 dX11_fillReason_0 rfl ?_
  refine ev_ild1 2 dX11_fillReason_1 rfl ?_
  refine tc_V1 5 13 dX11_fillReason_2 lkv_X11_93 (tr0 hT) rfl rfl (by first | decide | omega) (Nat.le_of_ble_eq_true rfl) (c_X11_studentAt_ok hT hW (by omega)) ?_
  refine ev_ast3 6 dX11_fillReason_5 rfl (by decide) rfl ?_
  refine ev_ald0 7 dX11_fillReason_6 rfl ?_
  refine ev_ild2 8 dX11_fillReason_7 rfl ?_
  refine tc_V1 11 13 dX11_fillReason_8 lkv_X11_104 (tr0 hT) rfl rfl (by first | decide | omega) (Nat.le_of_ble_eq_true rfl) (c_X11_courseAt_ok hT hW (by omega)) ?_
  refine ev_getfield 14 5 5 fl_X11_175_5 (tr12 hT (by first | assumption | exact wx_stu hW (by omega) | exact wx_crs hW (by omega) | exact wx_new hW)) rfl dX11_fillReason_11 rfl ?_
  refine ev_ist4 16 dX11_fillReason_14 rfl (by decide) rfl ?_
  refine ev_ild4 18 dX11_fillReason_16 rfl ?_
  refine tj_iconst 19 dX11_fillReason_18 rfl ?_
  refine tj_icmp_ne 33 22 dX11_fillReason_19 (by decide) rfl (by first | exact TR.rng hT _ _ _ | exact R31_of _ | exact bi_R _ | (constructor <;> omega)) (by first | exact TR.rng hT _ _ _ | exact R31_of _ | exact bi_R _ | (constructor <;> omega)) (fun c19 => ?_) (fun c19 => ?_)
  · skip
    refine ev_ald0 34 dX11_fillReason_33 rfl ?_
    refine ev_ald3 35 dX11_fillReason_34 rfl ?_
    refine tc_V1 38 13 dX11_fillReason_35 lkv_X11_167 (tr0 hT) rfl rfl (by first | decide | omega) (Nat.le_of_ble_eq_true rfl) (c_X11_truthsFor hT hW (by first | assumption | exact wx_stu hW (by omega)) (by omega)) ?_
    refine ev_lst5 40 dX11_fillReason_38 rfl (by decide) rfl ?_
    refine ev_ild4 42 dX11_fillReason_40 rfl ?_
    refine ev_lld5 44 dX11_fillReason_42 rfl ?_
    refine tc_S2 47 dX11_fillReason_44 lks_X11_171 rfl (by first | decide | omega) (Nat.le_of_ble_eq_true rfl) (isMet_S hW.1 (by omega)) ?_
    refine tb_if_eq 61 50 dX11_fillReason_47 (by decide) rfl (fun c47 => ?_) (fun c47 => ?_)
    · skip
      rw [hr]
      refine tj_iconst 62 dX11_fillReason_61 rfl ?_
      refine ev_ist7 64 dX11_fillReason_62 rfl (by decide) rfl ?_
      have lp64 : ∀ (n64 : Nat) (k n f : Nat) (z4 : Int) (z7 : Int)  (h2 : AH) (X2 : XM), n < n64 → (k + n = 6) → ((f : Int) < nF X) → (hol X s f = false) → (X 16 f 0 < n) → (rsn X s 6 r = (k + (rsn X s n f).1, (rsn X s n f).2)) → z4 = (f : Int) → z7 = (k : Int) → TR g α ν X2 h2 → (∀ kk, kk ≠ 30 → X2 kk = X kk) → Ev g M_X11_fillReason 9 64 [some (.ref (α 0 0)), some (.int (J (s : Int))), some (.int (J (c : Int))), some (.ref (α 4 s)), some (.int (J z4)), some (.long (truS X s)), none, some (.int (J z7))] [] h2 0 0 (UQ g α ν (some (.int (J ((rsnC X s c).1 : Int)))) (fun X' => (∀ kk, kk ≠ 30 → X' kk = X kk) ∧ X' 30 0 ((rsnC X s c).1 - 1) = ((rsnC X s c).2 : Int) ∧ 1 ≤ (rsnC X s c).1 ∧ (rsnC X s c).1 ≤ 6)) := by
        intro n64
        induction n64 with
        | zero => intro k n f z4 z7 h2 X2 hm; exact absurd hm (Nat.not_lt_zero _)
        | succ n64 ih64 =>
          intro k n f z4 z7 h2 X2 hm64 hk hf hh hd he e4 e7 hT hI
          subst e4
          subst e7
          have qd := wo_dep hO f hf
          obtain ⟨m, rfl⟩ : ∃ m, n = m + 1 := ⟨n - 1, by omega⟩
          refine ev_ald0 65 dX11_fillReason_64 rfl ?_
          refine ev_getfield 68 13 11 fl_X11_56_13 (tr0 hT) rfl dX11_fillReason_65 rfl ?_
          refine ev_ild7 70 dX11_fillReason_68 rfl ?_
          refine ev_ild4 72 dX11_fillReason_70 rfl ?_
          refine tv_iast 73 hT (tv30 hT) (fun _ => rfl) (k) (by omega) (by omega) (by omega) (by first | exact TR.rng hT _ _ _ | exact R31_of _ | exact bi_R _ | (constructor <;> omega)) dX11_fillReason_72 rfl (fun h hT => ?_)
          obtain ⟨X3, hX3⟩ : ∃ Z, Z = xs X2 30 0 k (f : Int) := ⟨_, rfl⟩
          rw [← hX3] at hT
          have hI3 : ∀ kk, kk ≠ 30 → X3 kk = X kk := fun kk q => by rw [hX3, xs_nk q]; exact hI kk q
          have hW : WX ν X3 := wx_cg hW0 (fun kk q => hI3 kk (by omega))
          have e16 := hI3 16 (by decide)
          have e1 := hI3 1 (by decide)
          have hf2 : (f : Int) < nF X3 := by unfold nF; rw [e1]; exact hf
          refine tj_inc7 76 dX11_fillReason_73 rfl (by decide) rfl ?_
          refine ev_ald0 77 dX11_fillReason_76 rfl ?_
          refine ev_ild4 79 dX11_fillReason_77 rfl ?_
          refine tc_V1 82 13 dX11_fillReason_79 lkv_X11_144 (tr0 hT) rfl rfl (by first | decide | omega) (Nat.le_of_ble_eq_true rfl) (c_X11_formulaAt_ok hT hW hf2) ?_
          refine ev_lld5 84 dX11_fillReason_82 rfl ?_
          refine tc_blame 87 dX11_fillReason_84 rfl hT hW hf2 rfl (by decide) (Nat.le_of_ble_eq_true rfl) ?_
          rw [bl_cg e16]
          have hbl := bl_R hO hf hh
          refine ev_ist4 89 dX11_fillReason_87 rfl (by decide) rfl ?_
          refine ev_ild4 91 dX11_fillReason_89 rfl ?_
          refine tj_iconst 92 dX11_fillReason_91 rfl ?_
          refine tj_icmp_eq 101 95 dX11_fillReason_92 (by decide) rfl (by first | exact TR.rng hT _ _ _ | exact R31_of _ | exact bi_R _ | (constructor <;> omega)) (by first | exact TR.rng hT _ _ _ | exact R31_of _ | exact bi_R _ | (constructor <;> omega)) (fun c92 => ?_) (fun c92 => ?_)
          · skip
            have w4 : X 16 f 9 ≠ 3 := fun z => by rw [bl_3 hO hf z hh] at c92; omega
            have w5 := rsn_l he w4
            refine ev_ild7 103 dX11_fillReason_101 rfl ?_
            exact ev_ireturn (uq_i (by first | rfl | omega | exact bi_dt (by omega) | exact bi_df (by omega) | (rw [rsnC, hr2, w5]; rfl)) hT (by show _ ∧ _ ∧ _ ∧ _; rw [rsnC, hr2, w5]; exact ⟨hI3, by rw [hX3, xs_at, if_pos (by show k + 1 - 1 = k; omega)], by show 1 ≤ k + 1; omega, by show k + 1 ≤ 6; omega⟩)) rfl dX11_fillReason_103
          · skip
            have w4 : X 16 f 9 = 3 := by by_cases z : X 16 f 9 = 3; exact z; exact absurd (bl_e z) c92
            refine ev_ild7 97 dX11_fillReason_95 rfl ?_
            refine tj_iconst 98 dX11_fillReason_97 rfl ?_
            refine tj_icmp_le 64 101 dX11_fillReason_98 (by decide) rfl (by first | exact TR.rng hT _ _ _ | exact R31_of _ | exact bi_R _ | (constructor <;> omega)) (by first | exact TR.rng hT _ _ _ | exact R31_of _ | exact bi_R _ | (constructor <;> omega)) (fun c98 => ?_) (fun c98 => ?_)
            · skip
              exact ih64 (k + 1) (m) (nx X s f) _ _ _ _ (by omega) (by first | omega | assumption | first | exact hr2 ▸ hh | rfl | (exact (nx_of hO hf w4 hh).1) | (exact (nx_of hO hf w4 hh).2.1) | (have := (nx_of hO hf w4 hh).2.2; omega) | exact rsn_k he w4 | (simp; done)) (by first | omega | assumption | first | exact hr2 ▸ hh | rfl | (exact (nx_of hO hf w4 hh).1) | (exact (nx_of hO hf w4 hh).2.1) | (have := (nx_of hO hf w4 hh).2.2; omega) | exact rsn_k he w4 | (simp; done)) (by first | omega | assumption | first | exact hr2 ▸ hh | rfl | (exact (nx_of hO hf w4 hh).1) | (exact (nx_of hO hf w4 hh).2.1) | (have := (nx_of hO hf w4 hh).2.2; omega) | exact rsn_k he w4 | (simp; done)) (by first | omega | assumption | first | exact hr2 ▸ hh | rfl | (exact (nx_of hO hf w4 hh).1) | (exact (nx_of hO hf w4 hh).2.1) | (have := (nx_of hO hf w4 hh).2.2; omega) | exact rsn_k he w4 | (simp; done)) (by first | omega | assumption | first | exact hr2 ▸ hh | rfl | (exact (nx_of hO hf w4 hh).1) | (exact (nx_of hO hf w4 hh).2.1) | (have := (nx_of hO hf w4 hh).2.2; omega) | exact rsn_k he w4 | (simp; done)) (by first | rfl | omega | (exact bl_3 hO hf w4 hh)) (by first | rfl | omega | (exact bl_3 hO hf w4 hh)) hT (by first | assumption | (first | exact fun _ _ => rfl | exact hI3))
            · exact False.elim (by have z9 := (nx_of hO hf w4 hh).2.2; have z8 := wo_dp0 hO (nx X s f); omega)
      exact lp64 _ (0) (6) (r) _ _ _ _ (Nat.lt_succ_self _) (by first | omega | assumption | first | exact hr2 ▸ hh | rfl | (exact (nx_of hO hf w4 hh).1) | (exact (nx_of hO hf w4 hh).2.1) | (have := (nx_of hO hf w4 hh).2.2; omega) | exact rsn_k he w4 | (simp; done)) (by first | omega | assumption | first | exact hr2 ▸ hh | rfl | (exact (nx_of hO hf w4 hh).1) | (exact (nx_of hO hf w4 hh).2.1) | (have := (nx_of hO hf w4 hh).2.2; omega) | exact rsn_k he w4 | (simp; done)) (by first | omega | assumption | first | exact hr2 ▸ hh | rfl | (exact (nx_of hO hf w4 hh).1) | (exact (nx_of hO hf w4 hh).2.1) | (have := (nx_of hO hf w4 hh).2.2; omega) | exact rsn_k he w4 | (simp; done)) (by first | omega | assumption | first | exact hr2 ▸ hh | rfl | (exact (nx_of hO hf w4 hh).1) | (exact (nx_of hO hf w4 hh).2.1) | (have := (nx_of hO hf w4 hh).2.2; omega) | exact rsn_k he w4 | (simp; done)) (by first | omega | assumption | first | exact hr2 ▸ hh | rfl | (exact (nx_of hO hf w4 hh).1) | (exact (nx_of hO hf w4 hh).2.1) | (have := (nx_of hO hf w4 hh).2.2; omega) | exact rsn_k he w4 | (simp; done)) (by first | rfl | omega | (exact bl_3 hO hf w4 hh)) (by first | rfl | omega | (exact bl_3 hO hf w4 hh)) hT (by first | assumption | (first | exact fun _ _ => rfl | exact hI3))
    · exact False.elim (Bool.false_ne_true (hh.symm.trans c47))
  · exact False.elim (by omega)
set_option maxRecDepth 100000 in
set_option maxHeartbeats 4000000 in
theorem c_X11_whyNot_b1 {g : Gt} {α : AL} {ν : Nat → Nat → Bool} {X : XM} {h : AH} (hT : TR g α ν X h) (hW : WX ν X) {b : Int} (hb : R31 b) (hn : ¬ (0 ≤ b ∧ b < nS X)) {a1 : Int} (ha1 : R31 a1) : Th g M_X11_whyNot 28 [.ref (α 0 0), .int (J b), .int (J a1)] h "java/lang/IndexOutOfBoundsException" := by
  refine th_of rfl rfl (ls := [some (.ref (α 0 0)), some (.int (J b)), some (.int (J a1)), none]) rfl (Nat.le_of_ble_eq_true rfl) ?_
  show Ev g M_X11_whyNot 28 0 [some (.ref (α 0 0)), some (.int (J b)), some (.int (J a1)), none] [] h 1 6 (TQ "java/lang/IndexOutOfBoundsException" h)
  refine ev_ald0 1 dX11_whyNot_0 rfl ?_
  refine ev_ild1 2 dX11_whyNot_1 rfl ?_
  refine ev_ild2 3 dX11_whyNot_2 rfl ?_
  exact tx_V2 6 13 dX11_whyNot_3 lkv_X11_320 (tr0 hT) rfl rfl (by first | decide | omega) (Nat.le_of_ble_eq_true rfl) rfl (by decide) (by decide) (c_X11_fillReason_b1 hT hW hb hn ha1) ⟨rfl, rfl⟩
set_option maxRecDepth 100000 in
set_option maxHeartbeats 4000000 in
theorem c_X11_whyNot_b2 {g : Gt} {α : AL} {ν : Nat → Nat → Bool} {X : XM} {h : AH} (hT : TR g α ν X h) (hW : WX ν X) {s : Nat} (hs0 : (s : Int) < nS X) {b : Int} (hb : R31 b) (hn : ¬ (0 ≤ b ∧ b < nC X)) : Th g M_X11_whyNot 28 [.ref (α 0 0), .int (J (s : Int)), .int (J b)] h "java/lang/IndexOutOfBoundsException" := by
  refine th_of rfl rfl (ls := [some (.ref (α 0 0)), some (.int (J (s : Int))), some (.int (J b)), none]) rfl (Nat.le_of_ble_eq_true rfl) ?_
  show Ev g M_X11_whyNot 28 0 [some (.ref (α 0 0)), some (.int (J (s : Int))), some (.int (J b)), none] [] h 1 6 (TQ "java/lang/IndexOutOfBoundsException" h)
  refine ev_ald0 1 dX11_whyNot_0 rfl ?_
  refine ev_ild1 2 dX11_whyNot_1 rfl ?_
  refine ev_ild2 3 dX11_whyNot_2 rfl ?_
  exact tx_V2 6 13 dX11_whyNot_3 lkv_X11_320 (tr0 hT) rfl rfl (by first | decide | omega) (Nat.le_of_ble_eq_true rfl) rfl (by decide) (by decide) (c_X11_fillReason_b2 hT hW hs0 hb hn) ⟨rfl, rfl⟩
set_option maxRecDepth 100000 in
set_option maxHeartbeats 4000000 in
theorem c_X11_whyNot_x2 {g : Gt} {α : AL} {ν : Nat → Nat → Bool} {X : XM} {h : AH} (hT : TR g α ν X h) (hW : WX ν X)  {s : Nat} (hs0 : (s : Int) < nS X) {c : Nat} (hc : (c : Int) < nC X) (hq : X 12 c 5 = -1) : Th g M_X11_whyNot 28 [.ref (α 0 0), .int (J (s : Int)), .int (J (c : Int))] h "java/util/NoSuchElementException" := by
  refine th_of rfl rfl (ls := [some (.ref (α 0 0)), some (.int (J (s : Int))), some (.int (J (c : Int))), none]) rfl (Nat.le_of_ble_eq_true rfl) ?_
  show Ev g M_X11_whyNot 28 0 [some (.ref (α 0 0)), some (.int (J (s : Int))), some (.int (J (c : Int))), none] [] h 1 6 (TQ "java/util/NoSuchElementException" h)
  refine ev_ald0 1 dX11_whyNot_0 rfl ?_
  refine ev_ild1 2 dX11_whyNot_1 rfl ?_
  refine ev_ild2 3 dX11_whyNot_2 rfl ?_
  exact tx_V2 6 13 dX11_whyNot_3 lkv_X11_320 (tr0 hT) rfl rfl (by first | decide | omega) (Nat.le_of_ble_eq_true rfl) rfl (by decide) (by decide) (c_X11_fillReason_x2 hT hW hs0 hc hq) ⟨rfl, rfl⟩
set_option maxRecDepth 100000 in
set_option maxHeartbeats 4000000 in
theorem c_X11_whyNot_x3 {g : Gt} {α : AL} {ν : Nat → Nat → Bool} {X : XM} {h : AH} (hT : TR g α ν X h) (hW : WX ν X)  {s : Nat} (hs0 : (s : Int) < nS X) {c : Nat} (hc : (c : Int) < nC X) (hq : X 12 c 5 ≠ -1) (hh : hol X s (X 12 c 5).toNat = true) : Th g M_X11_whyNot 28 [.ref (α 0 0), .int (J (s : Int)), .int (J (c : Int))] h "java/lang/IllegalStateException" := by
  refine th_of rfl rfl (ls := [some (.ref (α 0 0)), some (.int (J (s : Int))), some (.int (J (c : Int))), none]) rfl (Nat.le_of_ble_eq_true rfl) ?_
  show Ev g M_X11_whyNot 28 0 [some (.ref (α 0 0)), some (.int (J (s : Int))), some (.int (J (c : Int))), none] [] h 1 6 (TQ "java/lang/IllegalStateException" h)
  refine ev_ald0 1 dX11_whyNot_0 rfl ?_
  refine ev_ild1 2 dX11_whyNot_1 rfl ?_
  refine ev_ild2 3 dX11_whyNot_2 rfl ?_
  exact tx_V2 6 13 dX11_whyNot_3 lkv_X11_320 (tr0 hT) rfl rfl (by first | decide | omega) (Nat.le_of_ble_eq_true rfl) rfl (by decide) (by decide) (c_X11_fillReason_x3 hT hW hs0 hc hq hh) ⟨rfl, rfl⟩
set_option maxRecDepth 100000 in
set_option maxHeartbeats 4000000 in
theorem c_X11_whyNot_ok {g : Gt} {α : AL} {ν : Nat → Nat → Bool} {X : XM} {h : AH} (hT : TR g α ν X h) (hW : WX ν X) {s : Nat} (hs0 : (s : Int) < nS X) {c : Nat} (hc : (c : Int) < nC X) (hq : X 12 c 5 ≠ -1) (hh : hol X s (X 12 c 5).toNat = false) : Mu g α ν M_X11_whyNot 28 [.ref (α 0 0), .int (J (s : Int)), .int (J (c : Int))] h (some (.int (J ((rsnC X s c).2 : Int)))) (fun X' => ∀ kk, kk ≠ 30 → X' kk = X kk) := by
  refine mu_of rfl rfl (ls := [some (.ref (α 0 0)), some (.int (J (s : Int))), some (.int (J (c : Int))), none]) rfl (Nat.le_of_ble_eq_true rfl) ?_
  show Ev g M_X11_whyNot 28 0 [some (.ref (α 0 0)), some (.int (J (s : Int))), some (.int (J (c : Int))), none] [] h 0 0 (UQ g α ν (some (.int (J ((rsnC X s c).2 : Int)))) (fun X' => ∀ kk, kk ≠ 30 → X' kk = X kk))
  refine ev_ald0 1 dX11_whyNot_0 rfl ?_
  refine ev_ild1 2 dX11_whyNot_1 rfl ?_
  refine ev_ild2 3 dX11_whyNot_2 rfl ?_
  refine tm_V2 6 13 dX11_whyNot_3 lkv_X11_320 (tr0 hT) rfl rfl (by first | decide | omega) (Nat.le_of_ble_eq_true rfl) (c_X11_fillReason_ok hT hW hs0 hc hq hh) (fun h X1 hT hP3 => ?_)
  obtain ⟨p1, p2, p3, p4⟩ := hP3
  refine ev_ist3 7 dX11_whyNot_6 rfl (by decide) rfl ?_
  refine ev_ald0 8 dX11_whyNot_7 rfl ?_
  refine ev_getfield 11 13 11 fl_X11_56_13 (tr0 hT) rfl dX11_whyNot_8 rfl ?_
  refine ev_ild3 12 dX11_whyNot_11 rfl ?_
  refine tj_iconst 13 dX11_whyNot_12 rfl ?_
  refine tj_isub 14 dX11_whyNot_13 rfl ?_
  refine tv_iald 15 (tr30 hT) ((rsnC X s c).1 - 1) (by omega) (by omega) (by omega) dX11_whyNot_14 rfl ?_
  exact ev_ireturn (uq_i (by first | rfl | omega | exact bi_dt (by omega) | exact bi_df (by omega) | (first | exact p2 | rfl)) hT (by exact p1)) rfl dX11_whyNot_15
set_option maxRecDepth 100000 in
set_option maxHeartbeats 4000000 in
theorem c_X11_whyLong_b1 {g : Gt} {α : AL} {ν : Nat → Nat → Bool} {X : XM} {h : AH} (hT : TR g α ν X h) (hW : WX ν X) {b : Int} (hb : R31 b) (hn : ¬ (0 ≤ b ∧ b < nS X)) {a1 : Int} (ha1 : R31 a1) : Th g M_X11_whyLong 28 [.ref (α 0 0), .int (J b), .int (J a1)] h "java/lang/IndexOutOfBoundsException" := by
  refine th_of rfl rfl (ls := [some (.ref (α 0 0)), some (.int (J b)), some (.int (J a1))]) rfl (Nat.le_of_ble_eq_true rfl) ?_
  show Ev g M_X11_whyLong 28 0 [some (.ref (α 0 0)), some (.int (J b)), some (.int (J a1))] [] h 1 6 (TQ "java/lang/IndexOutOfBoundsException" h)
  refine ev_ald0 1 dX11_whyLong_0 rfl ?_
  refine ev_ild1 2 dX11_whyLong_1 rfl ?_
  refine ev_ild2 3 dX11_whyLong_2 rfl ?_
  exact tx_V2 6 13 dX11_whyLong_3 lkv_X11_320 (tr0 hT) rfl rfl (by first | decide | omega) (Nat.le_of_ble_eq_true rfl) rfl (by decide) (by decide) (c_X11_fillReason_b1 hT hW hb hn ha1) ⟨rfl, rfl⟩
set_option maxRecDepth 100000 in
set_option maxHeartbeats 4000000 in
theorem c_X11_whyLong_b2 {g : Gt} {α : AL} {ν : Nat → Nat → Bool} {X : XM} {h : AH} (hT : TR g α ν X h) (hW : WX ν X) {s : Nat} (hs0 : (s : Int) < nS X) {b : Int} (hb : R31 b) (hn : ¬ (0 ≤ b ∧ b < nC X)) : Th g M_X11_whyLong 28 [.ref (α 0 0), .int (J (s : Int)), .int (J b)] h "java/lang/IndexOutOfBoundsException" := by
  refine th_of rfl rfl (ls := [some (.ref (α 0 0)), some (.int (J (s : Int))), some (.int (J b))]) rfl (Nat.le_of_ble_eq_true rfl) ?_
  show Ev g M_X11_whyLong 28 0 [some (.ref (α 0 0)), some (.int (J (s : Int))), some (.int (J b))] [] h 1 6 (TQ "java/lang/IndexOutOfBoundsException" h)
  refine ev_ald0 1 dX11_whyLong_0 rfl ?_
  refine ev_ild1 2 dX11_whyLong_1 rfl ?_
  refine ev_ild2 3 dX11_whyLong_2 rfl ?_
  exact tx_V2 6 13 dX11_whyLong_3 lkv_X11_320 (tr0 hT) rfl rfl (by first | decide | omega) (Nat.le_of_ble_eq_true rfl) rfl (by decide) (by decide) (c_X11_fillReason_b2 hT hW hs0 hb hn) ⟨rfl, rfl⟩
set_option maxRecDepth 100000 in
set_option maxHeartbeats 4000000 in
theorem c_X11_whyLong_x2 {g : Gt} {α : AL} {ν : Nat → Nat → Bool} {X : XM} {h : AH} (hT : TR g α ν X h) (hW : WX ν X)  {s : Nat} (hs0 : (s : Int) < nS X) {c : Nat} (hc : (c : Int) < nC X) (hq : X 12 c 5 = -1) : Th g M_X11_whyLong 28 [.ref (α 0 0), .int (J (s : Int)), .int (J (c : Int))] h "java/util/NoSuchElementException" := by
  refine th_of rfl rfl (ls := [some (.ref (α 0 0)), some (.int (J (s : Int))), some (.int (J (c : Int)))]) rfl (Nat.le_of_ble_eq_true rfl) ?_
  show Ev g M_X11_whyLong 28 0 [some (.ref (α 0 0)), some (.int (J (s : Int))), some (.int (J (c : Int)))] [] h 1 6 (TQ "java/util/NoSuchElementException" h)
  refine ev_ald0 1 dX11_whyLong_0 rfl ?_
  refine ev_ild1 2 dX11_whyLong_1 rfl ?_
  refine ev_ild2 3 dX11_whyLong_2 rfl ?_
  exact tx_V2 6 13 dX11_whyLong_3 lkv_X11_320 (tr0 hT) rfl rfl (by first | decide | omega) (Nat.le_of_ble_eq_true rfl) rfl (by decide) (by decide) (c_X11_fillReason_x2 hT hW hs0 hc hq) ⟨rfl, rfl⟩
set_option maxRecDepth 100000 in
set_option maxHeartbeats 4000000 in
theorem c_X11_whyLong_x3 {g : Gt} {α : AL} {ν : Nat → Nat → Bool} {X : XM} {h : AH} (hT : TR g α ν X h) (hW : WX ν X)  {s : Nat} (hs0 : (s : Int) < nS X) {c : Nat} (hc : (c : Int) < nC X) (hq : X 12 c 5 ≠ -1) (hh : hol X s (X 12 c 5).toNat = true) : Th g M_X11_whyLong 28 [.ref (α 0 0), .int (J (s : Int)), .int (J (c : Int))] h "java/lang/IllegalStateException" := by
  refine th_of rfl rfl (ls := [some (.ref (α 0 0)), some (.int (J (s : Int))), some (.int (J (c : Int)))]) rfl (Nat.le_of_ble_eq_true rfl) ?_
  show Ev g M_X11_whyLong 28 0 [some (.ref (α 0 0)), some (.int (J (s : Int))), some (.int (J (c : Int)))] [] h 1 6 (TQ "java/lang/IllegalStateException" h)
  refine ev_ald0 1 dX11_whyLong_0 rfl ?_
  refine ev_ild1 2 dX11_whyLong_1 rfl ?_
  refine ev_ild2 3 dX11_whyLong_2 rfl ?_
  exact tx_V2 6 13 dX11_whyLong_3 lkv_X11_320 (tr0 hT) rfl rfl (by first | decide | omega) (Nat.le_of_ble_eq_true rfl) rfl (by decide) (by decide) (c_X11_fillReason_x3 hT hW hs0 hc hq hh) ⟨rfl, rfl⟩
set_option maxRecDepth 100000 in
set_option maxHeartbeats 4000000 in
theorem c_X11_whyLong_ok {g : Gt} {α : AL} {ν : Nat → Nat → Bool} {X : XM} {h : AH} (hT : TR g α ν X h) (hW : WX ν X) {s : Nat} (hs0 : (s : Int) < nS X) {c : Nat} (hc : (c : Int) < nC X) (hq : X 12 c 5 ≠ -1) (hh : hol X s (X 12 c 5).toNat = false) : Mu g α ν M_X11_whyLong 28 [.ref (α 0 0), .int (J (s : Int)), .int (J (c : Int))] h (some (.int (J ((rsnC X s c).1 : Int)))) (fun X' => ∀ kk, kk ≠ 30 → X' kk = X kk) := by
  refine mu_of rfl rfl (ls := [some (.ref (α 0 0)), some (.int (J (s : Int))), some (.int (J (c : Int)))]) rfl (Nat.le_of_ble_eq_true rfl) ?_
  show Ev g M_X11_whyLong 28 0 [some (.ref (α 0 0)), some (.int (J (s : Int))), some (.int (J (c : Int)))] [] h 0 0 (UQ g α ν (some (.int (J ((rsnC X s c).1 : Int)))) (fun X' => ∀ kk, kk ≠ 30 → X' kk = X kk))
  refine ev_ald0 1 dX11_whyLong_0 rfl ?_
  refine ev_ild1 2 dX11_whyLong_1 rfl ?_
  refine ev_ild2 3 dX11_whyLong_2 rfl ?_
  refine tm_V2 6 13 dX11_whyLong_3 lkv_X11_320 (tr0 hT) rfl rfl (by first | decide | omega) (Nat.le_of_ble_eq_true rfl) (c_X11_fillReason_ok hT hW hs0 hc hq hh) (fun h X1 hT hP3 => ?_)
  obtain ⟨p1, p2, p3, p4⟩ := hP3
  exact ev_ireturn (uq_i (by first | rfl | omega | exact bi_dt (by omega) | exact bi_df (by omega) | (first | exact p2 | rfl)) hT (by exact p1)) rfl dX11_whyLong_6
