/-! THE CLASS: what is true, who may take a seat -/
section RU4
variable {g : Gt} {α : AL} {ν : Nat → Nat → Bool} {X : XM} {M M2 : Mt} {d d1 pc : Nat} {ls : List (Option Value)} {st : List Value} {h : AH} {mc ms : Nat} {Q : RT → AH → Prop}
theorem tv_castF {index f : Nat} (n : Nat) (hd : decode (mC M) pc = .ok (.checkcast index, 3)) (hl : Cond.classLink (mY M).cls index "Prereqs$Formula" ∈ lw_tbl) (hT : TR g α ν X h) (hW : WX ν X) (hf : (f : Int) < nF X) (hn : pc + 3 = n) (kk : Ev g M d n ls (.ref (α 16 f) :: st) h mc ms Q) : Ev g M d pc ls (.ref (α 16 f) :: st) h mc ms Q := by
  have h0 := wo_fk hW.1 f hf
  have hv := wx_frm hW hf
  rcases (show X 16 f 9 = 0 ∨ X 16 f 9 = 1 ∨ X 16 f 9 = 2 ∨ X 16 f 9 = 3 ∨ X 16 f 9 = 4 by omega) with e0 | e0 | e0 | e0 | e0
  · exact ev_castY (C := "Prereqs$MarkFormula") n hd hl (List.mem_of_getElem? (i := 1138) (by decide +kernel)) (fc_0 hT hv e0) rfl hn kk
  · exact ev_castY (C := "Prereqs$TogetherFormula") n hd hl (List.mem_of_getElem? (i := 1140) (by decide +kernel)) (fc_1 hT hv e0) rfl hn kk
  · exact ev_castY (C := "Prereqs$CreditsFormula") n hd hl (List.mem_of_getElem? (i := 1137) (by decide +kernel)) (fc_2 hT hv e0) rfl hn kk
  · exact ev_castY (C := "Prereqs$CountFormula") n hd hl (List.mem_of_getElem? (i := 1136) (by decide +kernel)) (fc_3 hT hv e0) rfl hn kk
  · exact ev_castY (C := "Prereqs$NoneFormula") n hd hl (List.mem_of_getElem? (i := 1139) (by decide +kernel)) (fc_4 hT hv e0) rfl hn kk
theorem tc_isTrue {f s : Nat} {e : Int} {T : Int64} (n : Nat) (hd : decode (mC M) pc = .ok (.invokevirtual 410, 3)) (hcl : (mY M).cls = RX11) (hT : TR g α ν X h) (hW : WX ν X) (hs : ν 4 s = true) (hsl : s < 17) (hf : (f : Int) < nF X) (he : R31 e) (hn : pc + 3 = n) (hd1 : 1 < d) (hcat : (st.map fun v => v.category).sum ≤ 8) (kk : Ev g M d n ls (.int (J (bi (evF X (X 8 s) (tak X s) e f (lb T)))) :: st) h mc ms Q) : Ev g M d pc ls (.long T :: .int (J e) :: .ref (α 4 s) :: .ref (α 16 f) :: st) h mc ms Q := by
  have h0 := wo_fk hW.1 f hf
  have hv := wx_frm hW hf
  have hc := wo_nC hW.1
  have hF := wo_nF hW.1
  rcases (show X 16 f 9 = 0 ∨ X 16 f 9 = 1 ∨ X 16 f 9 = 2 ∨ X 16 f 9 = 3 ∨ X 16 f 9 = 4 by omega) with e0 | e0 | e0 | e0 | e0
  · obtain ⟨b1, b2, b3⟩ := wo_f0 hW.1 f hf e0
    exact tc_U3 (C := "Prereqs$MarkFormula") n hd (by rw [hcl]; exact lku_isTrue_X5) dcl_isTrue (fc_0 hT hv e0) rfl hn hd1 hcat (c_X5_isTrue hT hs hsl hv he e0 ⟨b1, by omega⟩) kk
  · obtain ⟨b1, b2, b3⟩ := wo_f1 hW.1 f hf e0
    exact tc_U3 (C := "Prereqs$TogetherFormula") n hd (by rw [hcl]; exact lku_isTrue_X9) dcl_isTrue (fc_1 hT hv e0) rfl hn hd1 hcat (c_X9_isTrue hT hs hsl hv he e0 ⟨b1, by omega⟩) kk
  · skip
    exact tc_U3 (C := "Prereqs$CreditsFormula") n hd (by rw [hcl]; exact lku_isTrue_X3) dcl_isTrue (fc_2 hT hv e0) rfl hn hd1 hcat (c_X3_isTrue hT hs hsl hv he e0) kk
  · have b1 := wo_f3 hW.1 f hf e0
    exact tc_U3 (C := "Prereqs$CountFormula") n hd (by rw [hcl]; exact lku_isTrue_X1) dcl_isTrue (fc_3 hT hv e0) rfl hn hd1 hcat (c_X1_isTrue hT hs hsl hv he e0 ⟨by omega, by omega, by omega, by omega, by omega, by omega⟩) kk
  · have b1 := wo_f4 hW.1 f hf e0
    exact tc_U3 (C := "Prereqs$NoneFormula") n hd (by rw [hcl]; exact lku_isTrue_X6) dcl_isTrue (fc_4 hT hv e0) rfl hn hd1 hcat (c_X6_isTrue hT hs hsl hv he e0 ⟨by omega, by omega⟩) kk
end RU4
/-- the truths, as the class walks them -/
def tru (X : XM) (b : Nat → Int) (t : Nat → Bool) (e : Int) : Nat → Int64
  | 0 => Int64.ofNat 0
  | n + 1 => if evF X b t e n (lb (tru X b t e n)) = true then tru X b t e n ||| (Int64.ofNat 1 <<< ((J (n : Int)).toInt64 &&& 63)) else tru X b t e n
theorem evF_congr {X : XM} (hO : WO X) {b : Nat → Int} {t : Nat → Bool} {e : Int} {f : Nat} (hf : (f : Int) < nF X) {z z' : Nat → Bool} (h : ∀ p, p < f → z p = z' p) : evF X b t e f z = evF X b t e f z' := by
  have h0 := wo_fk hO f hf
  unfold evF
  rcases (show X 16 f 9 = 0 ∨ X 16 f 9 = 1 ∨ X 16 f 9 = 2 ∨ X 16 f 9 = 3 ∨ X 16 f 9 = 4 by omega) with e0 | e0 | e0 | e0 | e0
  · rw [if_pos e0, if_pos e0]
  · rw [if_neg (by omega), if_pos e0, if_neg (by omega), if_pos e0]
  · rw [if_neg (by omega), if_neg (by omega), if_pos e0, if_neg (by omega), if_neg (by omega), if_pos e0]
  · have b1 := wo_f3 hO f hf e0
    rw [if_neg (by omega), if_neg (by omega), if_neg (by omega), if_pos e0, if_neg (by omega), if_neg (by omega), if_neg (by omega), if_pos e0, h (X 16 f 2).toNat (by omega), h (X 16 f 3).toNat (by omega)]
    by_cases c : X 16 f 4 = -1
    · simp [c]
    · rw [h (X 16 f 4).toNat (by omega)]
  · have b1 := wo_f4 hO f hf e0
    rw [if_neg (by omega), if_neg (by omega), if_neg (by omega), if_neg (by omega), if_neg (by omega), if_neg (by omega), if_neg (by omega), if_neg (by omega), h (X 16 f 1).toNat (by omega)]
theorem holF_ev {X : XM} (hO : WO X) {b : Nat → Int} {t : Nat → Bool} {e : Int} {f : Nat} (hf : (f : Int) < nF X) : holF X b t e f = evF X b t e f (holF X b t e) := by
  show (if f = f then evF X b t e f (ttF X b t e f) else _) = _
  rw [if_pos rfl]
  exact evF_congr hO hf (fun p hp => ttF_lt X b t e hp)
theorem lb_tru {X : XM} (hO : WO X) (b : Nat → Int) (t : Nat → Bool) (e : Int) : ∀ n : Nat, (n : Int) ≤ nF X → ∀ f, f < 64 → lb (tru X b t e n) f = (decide (f < n) && holF X b t e f)
  | 0, _, f, _ => by rw [tru, lb_0]; simp
  | n + 1, hn, f, hf => by
    have hF := wo_nF hO
    have ih := lb_tru hO b t e n (by omega)
    have key : evF X b t e n (lb (tru X b t e n)) = holF X b t e n := by
      rw [holF_ev hO (show (n : Int) < nF X by omega)]
      refine evF_congr hO (by omega) (fun p hp => ?_)
      rw [ih p (by omega), decide_eq_true hp, Bool.true_and]
    rw [tru, key]
    by_cases c : f = n
    · subst c
      by_cases k : holF X b t e f = true
      · rw [if_pos k, lb_set (by omega) hf, k]; simp
      · rw [if_neg k, ih f hf]; simp [Bool.eq_false_iff.mpr k]
    · have e1 : decide (f < n + 1) = decide (f < n) := by
        by_cases q : f < n
        · rw [decide_eq_true q, decide_eq_true (by omega)]
        · rw [decide_eq_false q, decide_eq_false (by omega)]
      rw [e1]
      by_cases k : holF X b t e n = true
      · rw [if_pos k, lb_set (by omega) hf, ih f hf, decide_eq_false c, Bool.or_false]
      · rw [if_neg k, ih f hf]
/-- of a student -/
def truS (X : XM) (s : Nat) : Int64 := tru X (X 8 s) (tak X s) (ernd X s) (nF X).toNat
theorem lb_S {X : XM} (hO : WO X) (s : Nat) {f : Nat} (hf : (f : Int) < nF X) : lb (truS X s) f = hol X s f := by
  have hF := wo_nF hO
  have := lb_tru hO (X 8 s) (tak X s) (ernd X s) (nF X).toNat (by omega) f (by omega)
  rw [decide_eq_true (by omega), Bool.true_and] at this
  exact this
theorem isMet_S {g : Gt} {h : AH} {X : XM} (hO : WO X) {s : Nat} {y : Int} (hy : 0 ≤ y ∧ y < nF X) : Pr g M_X11_isMet 0 [.int (J y), .long (truS X s)] h (some (.int (J (bi (hol X s y.toNat))))) := by
  have hF := wo_nF hO
  have c := isMet_n (g := g) (h := h) (y := y) (T := truS X s) (by omega)
  rw [lb_S hO s (by omega)] at c
  exact c
theorem isMet_R {g : Gt} {h : AH} {X : XM} (hO : WO X) {s c : Nat} (hc : (c : Int) < nC X) : Pr g M_X11_isMet 0 [.int (J (X 12 c 5)), .long (truS X s)] h (some (.int (J (bi (mayT X s c))))) := by
  have hF := wo_nF hO
  have hr := wo_req hO c hc
  have k := c_X11_isMet (g := g) (h := h) (y := X 12 c 5) (T := truS X s) (by omega)
  unfold mayT
  by_cases e : X 12 c 5 = -1
  · rw [decide_eq_true e, Bool.true_or] at k ⊢
    exact k
  · rw [lb_S hO s (by omega)] at k
    exact k
set_option maxRecDepth 100000 in
set_option maxHeartbeats 4000000 in
theorem c_X11_truthsFor {g : Gt} {α : AL} {ν : Nat → Nat → Bool} {X : XM} {h : AH} (hT : TR g α ν X h) (hW : WX ν X) {s : Nat} (hs : ν 4 s = true) (hl : s < 17) : Pr g M_X11_truthsFor 4 [.ref (α 0 0), .ref (α 4 s)] h (some (.long (truS X s))) := by
  refine pr_of rfl rfl (ls := [some (.ref (α 0 0)), some (.ref (α 4 s)), none, none, none, none]) rfl (Nat.le_of_ble_eq_true rfl) ?_
  show Ev g M_X11_truthsFor 4 0 [some (.ref (α 0 0)), some (.ref (α 4 s)), none, none, none, none] [] h 0 0 (PQ (some (.long (truS X s))) h)
  have q1 := wo_nC hW.1
  have q3 := wo_nS hW.1
  have qf := wo_nF hW.1
  have qe : 0 ≤ ernd X s ∧ ernd X s ≤ 6 * ((nC X).toNat : Int) := crS_0 hW.1 (psd X s) (nC X).toNat (by omega)
  refine ev_ald0 1 dX11_truthsFor_0 rfl ?_
  refine ev_ald1 2 dX11_truthsFor_1 rfl ?_
  refine tc_V1 5 13 dX11_truthsFor_2 lkv_X11_305 (tr0 hT) rfl rfl (by first | decide | omega) (Nat.le_of_ble_eq_true rfl) (c_X11_creditsEarned hT hW (by first | assumption | exact wx_stu hW (by omega) | exact wx_new hW) (by omega)) ?_
  refine ev_ist2 6 dX11_truthsFor_5 rfl (by decide) rfl ?_
  refine ev_lconst (Int64.ofNat 0) 7 dX11_truthsFor_6 rfl rfl ?_
  refine ev_lst3 8 dX11_truthsFor_7 rfl (by decide) rfl ?_
  refine tj_iconst 9 dX11_truthsFor_8 rfl ?_
  refine ev_ist5 11 dX11_truthsFor_9 rfl (by decide) rfl ?_
  have lp11 : ∀ (n11 : Nat) (f : Nat) (z3 : Int64) (z5 : Int) , 60 - f < n11 → ((f : Int) ≤ nF X) → z3 = tru X (X 8 s) (tak X s) (ernd X s) f → z5 = (f : Int) → Ev g M_X11_truthsFor 4 11 [some (.ref (α 0 0)), some (.ref (α 4 s)), some (.int (J (ernd X s))), some (.long z3), none, some (.int (J z5))] [] h 0 0 (PQ (some (.long (truS X s))) h) := by
    intro n11
    induction n11 with
    | zero => intro f z3 z5 hm; exact absurd hm (Nat.not_lt_zero _)
    | succ n11 ih11 =>
      intro f z3 z5 hm11 hf e3 e5
      subst e3
      subst e5
      refine ev_ild5 13 dX11_truthsFor_11 rfl ?_
      refine ev_ald0 14 dX11_truthsFor_13 rfl ?_
      refine ev_getfield 17 13 2 fl_X11_19_13 (tr0 hT) rfl dX11_truthsFor_14 rfl ?_
      refine tc_V0 20 2 dX11_truthsFor_17 lkv_X11_70 (tr1_2 hT) rfl rfl (by first | decide | omega) (Nat.le_of_ble_eq_true rfl) (z_F hT hW) ?_
      refine tj_icmp_ge 57 23 dX11_truthsFor_20 (by decide) rfl (by first | exact TR.rng hT _ _ _ | exact R31_of _ | exact bi_R _ | (constructor <;> omega)) (by first | exact TR.rng hT _ _ _ | exact R31_of _ | exact bi_R _ | (constructor <;> omega)) (fun c20 => ?_) (fun c20 => ?_)
      · skip
        refine ev_lld3 58 dX11_truthsFor_57 rfl ?_
        exact ev_lreturn ⟨by rw [show f = (nF X).toNat by omega]; rfl, rfl⟩ rfl dX11_truthsFor_58
      · skip
        refine ev_ald0 24 dX11_truthsFor_23 rfl ?_
        refine ev_getfield 27 13 2 fl_X11_19_13 (tr0 hT) rfl dX11_truthsFor_24 rfl ?_
        refine ev_ild5 29 dX11_truthsFor_27 rfl ?_
        refine tc_V1 32 2 dX11_truthsFor_29 lkv_X11_276 (tr1_2 hT) rfl rfl (by first | decide | omega) (Nat.le_of_ble_eq_true rfl) (g_F hT hW (by omega)) ?_
        refine tv_castF 35 dX11_truthsFor_32 cl_X11_149 hT hW (by omega) rfl ?_
        refine ev_ald1 36 dX11_truthsFor_35 rfl ?_
        refine ev_ild2 37 dX11_truthsFor_36 rfl ?_
        refine ev_lld3 38 dX11_truthsFor_37 rfl ?_
        refine tc_isTrue 41 dX11_truthsFor_38 rfl hT hW hs hl (by omega) (by constructor <;> omega) rfl (by decide) (Nat.le_of_ble_eq_true rfl) ?_
        refine tb_if_eq 51 44 dX11_truthsFor_41 (by decide) rfl (fun c41 => ?_) (fun c41 => ?_)
        · skip
          refine tj_inc5 54 dX11_truthsFor_51 rfl (by decide) rfl ?_
          refine ev_goto 11 dX11_truthsFor_54 (by decide) ?_
          exact ih11 (f + 1) _ _ (by omega) (by first | omega | assumption | omega) (by first | rfl | omega | (simp [tru, c41])) (by first | rfl | omega | (simp [tru, c41]))
        · skip
          refine ev_lld3 45 dX11_truthsFor_44 rfl ?_
          refine ev_lconst (Int64.ofNat 1) 46 dX11_truthsFor_45 rfl rfl ?_
          refine ev_ild5 48 dX11_truthsFor_46 rfl ?_
          refine ev_lshl 49 dX11_truthsFor_48 rfl ?_
          refine ev_lor 50 dX11_truthsFor_49 rfl ?_
          refine ev_lst3 51 dX11_truthsFor_50 rfl (by decide) rfl ?_
          refine tj_inc5 54 dX11_truthsFor_51 rfl (by decide) rfl ?_
          refine ev_goto 11 dX11_truthsFor_54 (by decide) ?_
          exact ih11 (f + 1) _ _ (by omega) (by first | omega | assumption | omega) (by first | rfl | omega | (simp [tru, c41])) (by first | rfl | omega | (simp [tru, c41]))
  exact lp11 _ (0) _ _ (Nat.lt_succ_self _) (by first | omega | assumption | omega) (by first | rfl | omega | (simp [tru, c41])) (by first | rfl | omega | (simp [tru, c41]))
set_option maxRecDepth 100000 in
set_option maxHeartbeats 4000000 in
theorem c_X11_requisiteHolds {g : Gt} {α : AL} {ν : Nat → Nat → Bool} {X : XM} {h : AH} (hT : TR g α ν X h) (hW : WX ν X) {s : Nat} (hs : ν 4 s = true) (hl : s < 17) {c : Nat} (hc : (c : Int) < nC X) : Pr g M_X11_requisiteHolds 5 [.ref (α 0 0), .ref (α 4 s), .ref (α 12 c)] h (some (.int (J (bi (mayT X s c))))) := by
  refine pr_of rfl rfl (ls := [some (.ref (α 0 0)), some (.ref (α 4 s)), some (.ref (α 12 c))]) rfl (Nat.le_of_ble_eq_true rfl) ?_
  show Ev g M_X11_requisiteHolds 5 0 [some (.ref (α 0 0)), some (.ref (α 4 s)), some (.ref (α 12 c))] [] h 0 0 (PQ (some (.int (J (bi (mayT X s c))))) h)
  have q1 := wo_nC hW.1
  have q3 := wo_nS hW.1
  have qr := wo_req hW.1 c hc
  refine ev_ald2 1 dX11_requisiteHolds_0 rfl ?_
  refine ev_getfield 4 5 5 fl_X11_175_5 (tr12 hT (by first | assumption | exact wx_stu hW (by omega) | exact wx_crs hW (by omega) | exact wx_new hW)) rfl dX11_requisiteHolds_1 rfl ?_
  refine tj_iconst 5 dX11_requisiteHolds_4 rfl ?_
  refine tj_icmp_eq 23 8 dX11_requisiteHolds_5 (by decide) rfl (by first | exact TR.rng hT _ _ _ | exact R31_of _ | exact bi_R _ | (constructor <;> omega)) (by first | exact TR.rng hT _ _ _ | exact R31_of _ | exact bi_R _ | (constructor <;> omega)) (fun c5 => ?_) (fun c5 => ?_)
  · skip
    refine tj_iconst 24 dX11_requisiteHolds_23 rfl ?_
    refine ev_goto 28 dX11_requisiteHolds_24 (by decide) ?_
    exact tz_ret (by first | rfl | omega | exact bi_dt (by omega) | exact bi_df (by omega) | (unfold mayT; first | (rw [decide_eq_true (by omega)]; rfl) | (rw [decide_eq_false (by omega), c20]; rfl))) rfl dX11_requisiteHolds_28
  · skip
    refine ev_ald2 9 dX11_requisiteHolds_8 rfl ?_
    refine ev_getfield 12 5 5 fl_X11_175_5 (tr12 hT (by first | assumption | exact wx_stu hW (by omega) | exact wx_crs hW (by omega) | exact wx_new hW)) rfl dX11_requisiteHolds_9 rfl ?_
    refine ev_ald0 13 dX11_requisiteHolds_12 rfl ?_
    refine ev_ald1 14 dX11_requisiteHolds_13 rfl ?_
    refine tc_V1 17 13 dX11_requisiteHolds_14 lkv_X11_167 (tr0 hT) rfl rfl (by first | decide | omega) (Nat.le_of_ble_eq_true rfl) (c_X11_truthsFor hT hW (by first | assumption | exact wx_stu hW (by omega)) (by omega)) ?_
    refine tc_S2 20 dX11_requisiteHolds_17 lks_X11_171 rfl (by first | decide | omega) (Nat.le_of_ble_eq_true rfl) (isMet_S hW.1 (by omega)) ?_
    refine tb_if_eq 27 23 dX11_requisiteHolds_20 (by decide) rfl (fun c20 => ?_) (fun c20 => ?_)
    · skip
      refine tj_iconst 28 dX11_requisiteHolds_27 rfl ?_
      exact tz_ret (by first | rfl | omega | exact bi_dt (by omega) | exact bi_df (by omega) | (unfold mayT; first | (rw [decide_eq_true (by omega)]; rfl) | (rw [decide_eq_false (by omega), c20]; rfl))) rfl dX11_requisiteHolds_28
    · skip
      refine tj_iconst 24 dX11_requisiteHolds_23 rfl ?_
      refine ev_goto 28 dX11_requisiteHolds_24 (by decide) ?_
      exact tz_ret (by first | rfl | omega | exact bi_dt (by omega) | exact bi_df (by omega) | (unfold mayT; first | (rw [decide_eq_true (by omega)]; rfl) | (rw [decide_eq_false (by omega), c20]; rfl))) rfl dX11_requisiteHolds_28
theorem stu_ne {g : Gt} {α : AL} {ν : Nat → Nat → Bool} {X : XM} {h : AH} (hT : TR g α ν X h) {s t : Nat} (hs : ν 4 s = true) (hl : s < 17) (ht : ν 4 t = true) (hl2 : t < 17) (e : some (α 4 s) = some (α 4 t)) : s = t :=
  (hT.2.1 4 s 4 t (tv4 hT hs hl) (tv4 hT ht hl2) (Option.some.inj e)).2
set_option maxRecDepth 100000 in
set_option maxHeartbeats 4000000 in
theorem c_X2_placeFor {g : Gt} {α : AL} {ν : Nat → Nat → Bool} {X : XM} {h : AH} (hT : TR g α ν X h) (hW : WX ν X) {c : Nat} (hc : (c : Int) < nC X) {s : Nat} (hs : ν 4 s = true) (hl : s < 17) : Pr g M_X2_placeFor 3 [.ref (α 12 c), .ref (α 4 s)] h (some (.int (J (place X c s)))) := by
  refine pr_of rfl rfl (ls := [some (.ref (α 12 c)), some (.ref (α 4 s)), none]) rfl (Nat.le_of_ble_eq_true rfl) ?_
  show Ev g M_X2_placeFor 3 0 [some (.ref (α 12 c)), some (.ref (α 4 s)), none] [] h 0 0 (PQ (some (.int (J (place X c s)))) h)
  have q1 := wo_nC hW.1
  have q3 := wo_nS hW.1
  have q5 := wo_wN hW.1 c hc
  refine tj_iconst 1 dX2_placeFor_0 rfl ?_
  refine ev_ist2 2 dX2_placeFor_1 rfl (by decide) rfl ?_
  have lp2 : ∀ (n2 : Nat) (k : Nat) (z2 : Int) , 7 - k < n2 → ((k : Int) ≤ X 1 (4 + c) 2) → (plc X c s k = -1) → z2 = (k : Int) → Ev g M_X2_placeFor 3 2 [some (.ref (α 12 c)), some (.ref (α 4 s)), some (.int (J z2))] [] h 0 0 (PQ (some (.int (J (place X c s)))) h) := by
    intro n2
    induction n2 with
    | zero => intro k z2 hm; exact absurd hm (Nat.not_lt_zero _)
    | succ n2 ih2 =>
      intro k z2 hm2 hk hp e2
      subst e2
      refine ev_ild2 3 dX2_placeFor_2 rfl ?_
      refine ev_ald0 4 dX2_placeFor_3 rfl ?_
      refine ev_getfield 7 5 4 fl_X2_18_5 (tr12 hT (by first | assumption | exact wx_stu hW (by omega) | exact wx_crs hW (by omega) | exact wx_new hW)) rfl dX2_placeFor_4 rfl ?_
      refine tc_V0 10 2 dX2_placeFor_7 lkv_X2_35 (tr1_W hT (by first | assumption | exact wx_stu hW (by omega) | exact wx_crs hW (by omega) | exact wx_new hW)) rfl rfl (by first | decide | omega) (Nat.le_of_ble_eq_true rfl) (z_W hT hW (by omega)) ?_
      refine tj_icmp_ge 33 13 dX2_placeFor_10 (by decide) rfl (by first | exact TR.rng hT _ _ _ | exact R31_of _ | exact bi_R _ | (constructor <;> omega)) (by first | exact TR.rng hT _ _ _ | exact R31_of _ | exact bi_R _ | (constructor <;> omega)) (fun c10 => ?_) (fun c10 => ?_)
      · skip
        refine tj_iconst 34 dX2_placeFor_33 rfl ?_
        exact ev_ireturn (pq_i (by first | rfl | omega | exact bi_dt (by omega) | exact bi_df (by omega) | (rw [show (-1 : Int) = plc X c s k from hp.symm, show k = (X 1 (4 + c) 2).toNat by omega]; rfl))) rfl dX2_placeFor_34
      · skip
        have q7 := wo_wA hW.1 c k hc (by omega)
        have q8 := wx_stu hW (s := (X 2 (4 + c) (k + 1)).toNat) (by omega)
        refine ev_ald0 14 dX2_placeFor_13 rfl ?_
        refine ev_getfield 17 5 4 fl_X2_18_5 (tr12 hT (by first | assumption | exact wx_stu hW (by omega) | exact wx_crs hW (by omega) | exact wx_new hW)) rfl dX2_placeFor_14 rfl ?_
        refine ev_ild2 18 dX2_placeFor_17 rfl ?_
        refine tc_V1 21 2 dX2_placeFor_18 lkv_X2_39 (tr1_W hT (by first | assumption | exact wx_stu hW (by omega) | exact wx_crs hW (by omega) | exact wx_new hW)) rfl rfl (by first | decide | omega) (Nat.le_of_ble_eq_true rfl) (g_W hT hW (by omega) (by omega)) ?_
        refine ev_ald1 22 dX2_placeFor_21 rfl ?_
        refine ev_acmp_ne (rx := some _) (ry := some _) 27 25 dX2_placeFor_22 (by decide) rfl (fun c22 => ?_) (fun c22 => ?_)
        · skip
          refine tj_inc2 30 dX2_placeFor_27 rfl (by decide) rfl ?_
          refine ev_goto 2 dX2_placeFor_30 (by decide) ?_
          exact ih2 (k + 1) _ (by omega) (by first | omega | assumption | first | rfl | exact plc_miss hp (fun z => c22 (by rw [z]; rfl))) (by first | omega | assumption | first | rfl | exact plc_miss hp (fun z => c22 (by rw [z]; rfl))) (by first | rfl | omega | (omega))
        · skip
          refine ev_ild2 26 dX2_placeFor_25 rfl ?_
          exact ev_ireturn (pq_i (by first | rfl | omega | exact bi_dt (by omega) | exact bi_df (by omega) | (exact (plc_hit hp (by have := stu_ne hT q8 (by omega) hs hl c22; omega) _ (by omega)).symm))) rfl dX2_placeFor_26
  exact lp2 _ (0) _ (Nat.lt_succ_self _) (by first | omega | assumption | first | rfl | exact plc_miss hp (fun z => c22 (by rw [z]; rfl))) (by first | omega | assumption | first | rfl | exact plc_miss hp (fun z => c22 (by rw [z]; rfl))) (by first | rfl | omega | (omega))
theorem tak_t {X : XM} {s c : Nat} (h : ¬ X 5 s c = 0) : tak X s c = true := decide_eq_true h
/-! -/
set_option maxRecDepth 100000 in
set_option maxHeartbeats 4000000 in
theorem c_X11_letterFor {g : Gt} {α : AL} {ν : Nat → Nat → Bool} {X : XM} {h : AH} (hT : TR g α ν X h) (hW : WX ν X) {s : Nat} (hs0 : (s : Int) < nS X) {c : Nat} (hc : (c : Int) < nC X) : Pr g M_X11_letterFor 6 [.ref (α 0 0), .ref (α 4 s), .ref (α 12 c)] h (some (.int (J (ltr X s c)))) := by
  refine pr_of rfl rfl (ls := [some (.ref (α 0 0)), some (.ref (α 4 s)), some (.ref (α 12 c))]) rfl (Nat.le_of_ble_eq_true rfl) ?_
  show Ev g M_X11_letterFor 6 0 [some (.ref (α 0 0)), some (.ref (α 4 s)), some (.ref (α 12 c))] [] h 0 0 (PQ (some (.int (J (ltr X s c)))) h)
  have q1 := wo_nC hW.1
  have q3 := wo_nS hW.1
  have hs := wx_stu hW hs0
  have hl : s < 17 := by omega
  have w1 := wo_maj hW.1 s hs0
  have w2 := free_0 hW.1 hc (X 4 s 0)
  have w3 := place_R hW.1 hc s
  have w4 := wo_tri hW.1 s c hs0 (by omega)
  have w5 := wo_wN hW.1 c hc
  have w6 := wo_day hW.1
  refine ev_ald0 1 dX11_letterFor_0 rfl ?_
  refine ev_getfield 4 13 5 fl_X11_180_13 (tr0 hT) rfl dX11_letterFor_1 rfl ?_
  refine tj_iconst 5 dX11_letterFor_4 rfl ?_
  refine tj_icmp_le 11 8 dX11_letterFor_5 (by decide) rfl (by first | exact TR.rng hT _ _ _ | exact R31_of _ | exact bi_R _ | (constructor <;> omega)) (by first | exact TR.rng hT _ _ _ | exact R31_of _ | exact bi_R _ | (constructor <;> omega)) (fun c5 => ?_) (fun c5 => ?_)
  · skip
    refine ev_ald1 12 dX11_letterFor_11 rfl ?_
    refine ev_getfield 15 10 1 fl_X11_214_10 (tr4 hT (by first | assumption | exact wx_stu hW (by omega) | exact wx_crs hW (by omega) | exact wx_new hW) (by omega)) rfl dX11_letterFor_12 rfl ?_
    refine ev_ald2 16 dX11_letterFor_15 rfl ?_
    refine ev_getfield 19 5 0 fl_X11_428_5 (tr12 hT (by first | assumption | exact wx_stu hW (by omega) | exact wx_crs hW (by omega) | exact wx_new hW)) rfl dX11_letterFor_16 rfl ?_
    first | refine tv_zald 20 (tr5 hT (by first | assumption | exact wx_stu hW (by omega) | exact wx_crs hW (by omega) | exact wx_new hW) (by omega)) _ rfl (by omega) (by omega) dX11_letterFor_19 rfl ?_ | refine tv_zald 20 (tr5 hT (by first | assumption | exact wx_stu hW (by omega) | exact wx_crs hW (by omega) | exact wx_new hW) (by omega)) (Int.toNat _) (by omega) (by omega) (by omega) dX11_letterFor_19 rfl ?_
    refine tj_if_ne 32 23 dX11_letterFor_20 (by decide) rfl (by first | exact TR.rng hT _ _ _ | exact R31_of _ | exact bi_R _ | (constructor <;> omega)) (fun c20 => ?_) (fun c20 => ?_)
    · skip
      refine tj_bipush 34 dX11_letterFor_32 (by decide) rfl ?_
      exact tz_retc (by first | rfl | omega | exact bi_dt (by omega) | exact bi_df (by omega) | (unfold ltr; rw [if_neg (by omega)]; (first | rw [if_pos (Or.inl (tak_t c20))] | rw [if_pos (Or.inr (by omega))]))) (ltr_c X s c) rfl dX11_letterFor_34
    · skip
      refine ev_ald2 24 dX11_letterFor_23 rfl ?_
      refine ev_ald1 25 dX11_letterFor_24 rfl ?_
      refine tc_V1 28 5 dX11_letterFor_25 lkv_X11_220 (tr12 hT (by first | assumption | exact wx_stu hW (by omega) | exact wx_crs hW (by omega) | exact wx_new hW)) rfl rfl (by first | decide | omega) (Nat.le_of_ble_eq_true rfl) (c_X2_placeFor hT hW (by omega) (by first | assumption | exact wx_stu hW (by omega)) (by omega)) ?_
      refine tj_iconst 29 dX11_letterFor_28 rfl ?_
      refine tj_icmp_eq 35 32 dX11_letterFor_29 (by decide) rfl (by first | exact TR.rng hT _ _ _ | exact R31_of _ | exact bi_R _ | (constructor <;> omega)) (by first | exact TR.rng hT _ _ _ | exact R31_of _ | exact bi_R _ | (constructor <;> omega)) (fun c29 => ?_) (fun c29 => ?_)
      · skip
        refine ev_ald0 36 dX11_letterFor_35 rfl ?_
        refine ev_ald1 37 dX11_letterFor_36 rfl ?_
        refine ev_ald2 38 dX11_letterFor_37 rfl ?_
        refine tc_V2 41 13 dX11_letterFor_38 lkv_X11_250 (tr0 hT) rfl rfl (by first | decide | omega) (Nat.le_of_ble_eq_true rfl) (c_X11_requisiteHolds hT hW (by first | assumption | exact wx_stu hW (by omega)) (by omega) (by omega)) ?_
        refine tb_if_ne 47 44 dX11_letterFor_41 (by decide) rfl (fun c41 => ?_) (fun c41 => ?_)
        · skip
          refine ev_ald1 48 dX11_letterFor_47 rfl ?_
          refine ev_getfield 51 10 5 fl_X11_254_10 (tr4 hT (by first | assumption | exact wx_stu hW (by omega) | exact wx_crs hW (by omega) | exact wx_new hW) (by omega)) rfl dX11_letterFor_48 rfl ?_
          refine ev_ald2 52 dX11_letterFor_51 rfl ?_
          refine ev_getfield 55 5 0 fl_X11_428_5 (tr12 hT (by first | assumption | exact wx_stu hW (by omega) | exact wx_crs hW (by omega) | exact wx_new hW)) rfl dX11_letterFor_52 rfl ?_
          first | refine tv_iald 56 (tr9 hT (by first | assumption | exact wx_stu hW (by omega) | exact wx_crs hW (by omega) | exact wx_new hW) (by omega)) _ rfl (by omega) (by omega) dX11_letterFor_55 rfl ?_ | refine tv_iald 56 (tr9 hT (by first | assumption | exact wx_stu hW (by omega) | exact wx_crs hW (by omega) | exact wx_new hW) (by omega)) (Int.toNat _) (by omega) (by omega) (by omega) dX11_letterFor_55 rfl ?_
          refine tj_iconst 57 dX11_letterFor_56 rfl ?_
          refine tj_icmp_lt 63 60 dX11_letterFor_57 (by decide) rfl (by first | exact TR.rng hT _ _ _ | exact R31_of _ | exact bi_R _ | (constructor <;> omega)) (by first | exact TR.rng hT _ _ _ | exact R31_of _ | exact bi_R _ | (constructor <;> omega)) (fun c57 => ?_) (fun c57 => ?_)
          · skip
            refine ev_ald0 64 dX11_letterFor_63 rfl ?_
            refine ev_ald1 65 dX11_letterFor_64 rfl ?_
            refine ev_ald2 66 dX11_letterFor_65 rfl ?_
            refine tc_V2 69 13 dX11_letterFor_66 lkv_X11_261 (tr0 hT) rfl rfl (by first | decide | omega) (Nat.le_of_ble_eq_true rfl) (c_X11_canBear hT hW (by first | assumption | exact wx_stu hW (by omega)) (by omega) (by omega)) ?_
            refine tb_if_ne 75 72 dX11_letterFor_69 (by decide) rfl (fun c69 => ?_) (fun c69 => ?_)
            · skip
              refine ev_ald0 76 dX11_letterFor_75 rfl ?_
              refine ev_ald2 77 dX11_letterFor_76 rfl ?_
              refine ev_ald1 78 dX11_letterFor_77 rfl ?_
              refine ev_getfield 81 10 0 fl_X11_97_10 (tr4 hT (by first | assumption | exact wx_stu hW (by omega) | exact wx_crs hW (by omega) | exact wx_new hW) (by omega)) rfl dX11_letterFor_78 rfl ?_
              refine tc_V2 84 13 dX11_letterFor_81 lkv_X11_257 (tr0 hT) rfl rfl (by first | decide | omega) (Nat.le_of_ble_eq_true rfl) (c_X11_freeFor hT hW (by omega) (by first | exact TR.rng hT _ _ _ | exact R31_of _ | exact bi_R _ | (constructor <;> omega))) ?_
              refine tj_if_le 90 87 dX11_letterFor_84 (by decide) rfl (by first | exact TR.rng hT _ _ _ | exact R31_of _ | exact bi_R _ | (constructor <;> omega)) (fun c84 => ?_) (fun c84 => ?_)
              · skip
                refine ev_ald2 91 dX11_letterFor_90 rfl ?_
                refine ev_getfield 94 5 4 fl_X11_217_5 (tr12 hT (by first | assumption | exact wx_stu hW (by omega) | exact wx_crs hW (by omega) | exact wx_new hW)) rfl dX11_letterFor_91 rfl ?_
                refine tc_V0 97 2 dX11_letterFor_94 lkv_X11_70 (tr1_W hT (by first | assumption | exact wx_stu hW (by omega) | exact wx_crs hW (by omega) | exact wx_new hW)) rfl rfl (by first | decide | omega) (Nat.le_of_ble_eq_true rfl) (z_W hT hW (by omega)) ?_
                refine tj_bipush 99 dX11_letterFor_97 (by decide) rfl ?_
                refine tj_icmp_lt 107 102 dX11_letterFor_99 (by decide) rfl (by first | exact TR.rng hT _ _ _ | exact R31_of _ | exact bi_R _ | (constructor <;> omega)) (by first | exact TR.rng hT _ _ _ | exact R31_of _ | exact bi_R _ | (constructor <;> omega)) (fun c99 => ?_) (fun c99 => ?_)
                · skip
                  refine tj_bipush 109 dX11_letterFor_107 (by decide) rfl ?_
                  exact tz_retc (by first | rfl | omega | exact bi_dt (by omega) | exact bi_df (by omega) | (unfold ltr; rw [if_neg (by omega)]; rw [if_neg (fun z => by rcases z with z | z; exact absurd (of_decide_eq_true z) (by omega); exact z (by omega))]; rw [if_neg (by rw [c41]; decide)]; rw [if_neg (by omega)]; rw [if_neg (by rw [c69]; decide)]; rw [if_neg (by omega)]; first | (rw [if_pos (by omega)]; done) | (rw [if_neg (by omega)]; done))) (ltr_c X s c) rfl dX11_letterFor_109
                · skip
                  refine tj_bipush 104 dX11_letterFor_102 (by decide) rfl ?_
                  refine ev_goto 109 dX11_letterFor_104 (by decide) ?_
                  exact tz_retc (by first | rfl | omega | exact bi_dt (by omega) | exact bi_df (by omega) | (unfold ltr; rw [if_neg (by omega)]; rw [if_neg (fun z => by rcases z with z | z; exact absurd (of_decide_eq_true z) (by omega); exact z (by omega))]; rw [if_neg (by rw [c41]; decide)]; rw [if_neg (by omega)]; rw [if_neg (by rw [c69]; decide)]; rw [if_neg (by omega)]; first | (rw [if_pos (by omega)]; done) | (rw [if_neg (by omega)]; done))) (ltr_c X s c) rfl dX11_letterFor_109
              · skip
                refine tj_bipush 89 dX11_letterFor_87 (by decide) rfl ?_
                exact tz_retc (by first | rfl | omega | exact bi_dt (by omega) | exact bi_df (by omega) | (unfold ltr; rw [if_neg (by omega)]; rw [if_neg (fun z => by rcases z with z | z; exact absurd (of_decide_eq_true z) (by omega); exact z (by omega))]; rw [if_neg (by rw [c41]; decide)]; rw [if_neg (by omega)]; rw [if_neg (by rw [c69]; decide)]; rw [if_pos (by omega)])) (ltr_c X s c) rfl dX11_letterFor_89
            · skip
              refine tj_bipush 74 dX11_letterFor_72 (by decide) rfl ?_
              exact tz_retc (by first | rfl | omega | exact bi_dt (by omega) | exact bi_df (by omega) | (unfold ltr; rw [if_neg (by omega)]; rw [if_neg (fun z => by rcases z with z | z; exact absurd (of_decide_eq_true z) (by omega); exact z (by omega))]; rw [if_neg (by rw [c41]; decide)]; rw [if_neg (by omega)]; rw [if_pos c69])) (ltr_c X s c) rfl dX11_letterFor_74
          · skip
            refine tj_bipush 62 dX11_letterFor_60 (by decide) rfl ?_
            exact tz_retc (by first | rfl | omega | exact bi_dt (by omega) | exact bi_df (by omega) | (unfold ltr; rw [if_neg (by omega)]; rw [if_neg (fun z => by rcases z with z | z; exact absurd (of_decide_eq_true z) (by omega); exact z (by omega))]; rw [if_neg (by rw [c41]; decide)]; rw [if_pos (by omega)])) (ltr_c X s c) rfl dX11_letterFor_62
        · skip
          refine tj_bipush 46 dX11_letterFor_44 (by decide) rfl ?_
          exact tz_retc (by first | rfl | omega | exact bi_dt (by omega) | exact bi_df (by omega) | (unfold ltr; rw [if_neg (by omega)]; rw [if_neg (fun z => by rcases z with z | z; exact absurd (of_decide_eq_true z) (by omega); exact z (by omega))]; rw [if_pos c41])) (ltr_c X s c) rfl dX11_letterFor_46
      · skip
        refine tj_bipush 34 dX11_letterFor_32 (by decide) rfl ?_
        exact tz_retc (by first | rfl | omega | exact bi_dt (by omega) | exact bi_df (by omega) | (unfold ltr; rw [if_neg (by omega)]; (first | rw [if_pos (Or.inl (tak_t c20))] | rw [if_pos (Or.inr (by omega))]))) (ltr_c X s c) rfl dX11_letterFor_34
  · skip
    refine tj_bipush 10 dX11_letterFor_8 (by decide) rfl ?_
    exact tz_retc (by first | rfl | omega | exact bi_dt (by omega) | exact bi_df (by omega) | (unfold ltr; rw [if_pos (by omega)])) (ltr_c X s c) rfl dX11_letterFor_10
set_option maxRecDepth 100000 in
set_option maxHeartbeats 4000000 in
theorem c_X11_canTakeSeat {g : Gt} {α : AL} {ν : Nat → Nat → Bool} {X : XM} {h : AH} (hT : TR g α ν X h) (hW : WX ν X) {s : Nat} (hs0 : (s : Int) < nS X) {c : Nat} (hc : (c : Int) < nC X) : Pr g M_X11_canTakeSeat 6 [.ref (α 0 0), .ref (α 4 s), .ref (α 12 c)] h (some (.int (J (bi (canT X s c))))) := by
  refine pr_of rfl rfl (ls := [some (.ref (α 0 0)), some (.ref (α 4 s)), some (.ref (α 12 c))]) rfl (Nat.le_of_ble_eq_true rfl) ?_
  show Ev g M_X11_canTakeSeat 6 0 [some (.ref (α 0 0)), some (.ref (α 4 s)), some (.ref (α 12 c))] [] h 0 0 (PQ (some (.int (J (bi (canT X s c))))) h)
  have q1 := wo_nC hW.1
  have q3 := wo_nS hW.1
  have hs := wx_stu hW hs0
  have hl : s < 17 := by omega
  have w1 := wo_maj hW.1 s hs0
  have w2 := free_0 hW.1 hc (X 4 s 0)
  have w3 := place_R hW.1 hc s
  have w4 := wo_tri hW.1 s c hs0 (by omega)
  have w5 := wo_wN hW.1 c hc
  have w6 := wo_day hW.1
  refine ev_ald0 1 dX11_canTakeSeat_0 rfl ?_
  refine ev_ald2 2 dX11_canTakeSeat_1 rfl ?_
  refine ev_ald1 3 dX11_canTakeSeat_2 rfl ?_
  refine ev_getfield 6 10 0 fl_X11_97_10 (tr4 hT (by first | assumption | exact wx_stu hW (by omega) | exact wx_crs hW (by omega) | exact wx_new hW) (by omega)) rfl dX11_canTakeSeat_3 rfl ?_
  refine tc_V2 9 13 dX11_canTakeSeat_6 lkv_X11_257 (tr0 hT) rfl rfl (by first | decide | omega) (Nat.le_of_ble_eq_true rfl) (c_X11_freeFor hT hW (by omega) (by first | exact TR.rng hT _ _ _ | exact R31_of _ | exact bi_R _ | (constructor <;> omega))) ?_
  refine tj_if_le 34 12 dX11_canTakeSeat_9 (by decide) rfl (by first | exact TR.rng hT _ _ _ | exact R31_of _ | exact bi_R _ | (constructor <;> omega)) (fun c9 => ?_) (fun c9 => ?_)
  · skip
    refine tj_iconst 35 dX11_canTakeSeat_34 rfl ?_
    exact tz_ret (by first | rfl | omega | exact bi_dt (by omega) | exact bi_df (by omega) | (unfold canT; first | (rw [decide_eq_false (by omega)]; rfl) | (rw [decide_eq_true (by omega), c18]; rfl) | (rw [decide_eq_true (by omega), c18, c27]; rfl))) rfl dX11_canTakeSeat_35
  · skip
    refine ev_ald0 13 dX11_canTakeSeat_12 rfl ?_
    refine ev_ald1 14 dX11_canTakeSeat_13 rfl ?_
    refine ev_ald2 15 dX11_canTakeSeat_14 rfl ?_
    refine tc_V2 18 13 dX11_canTakeSeat_15 lkv_X11_261 (tr0 hT) rfl rfl (by first | decide | omega) (Nat.le_of_ble_eq_true rfl) (c_X11_canBear hT hW (by first | assumption | exact wx_stu hW (by omega)) (by omega) (by omega)) ?_
    refine tb_if_eq 34 21 dX11_canTakeSeat_18 (by decide) rfl (fun c18 => ?_) (fun c18 => ?_)
    · skip
      refine tj_iconst 35 dX11_canTakeSeat_34 rfl ?_
      exact tz_ret (by first | rfl | omega | exact bi_dt (by omega) | exact bi_df (by omega) | (unfold canT; first | (rw [decide_eq_false (by omega)]; rfl) | (rw [decide_eq_true (by omega), c18]; rfl) | (rw [decide_eq_true (by omega), c18, c27]; rfl))) rfl dX11_canTakeSeat_35
    · skip
      refine ev_ald0 22 dX11_canTakeSeat_21 rfl ?_
      refine ev_ald1 23 dX11_canTakeSeat_22 rfl ?_
      refine ev_ald2 24 dX11_canTakeSeat_23 rfl ?_
      refine tc_V2 27 13 dX11_canTakeSeat_24 lkv_X11_250 (tr0 hT) rfl rfl (by first | decide | omega) (Nat.le_of_ble_eq_true rfl) (c_X11_requisiteHolds hT hW (by first | assumption | exact wx_stu hW (by omega)) (by omega) (by omega)) ?_
      refine tb_if_eq 34 30 dX11_canTakeSeat_27 (by decide) rfl (fun c27 => ?_) (fun c27 => ?_)
      · skip
        refine tj_iconst 35 dX11_canTakeSeat_34 rfl ?_
        exact tz_ret (by first | rfl | omega | exact bi_dt (by omega) | exact bi_df (by omega) | (unfold canT; first | (rw [decide_eq_false (by omega)]; rfl) | (rw [decide_eq_true (by omega), c18]; rfl) | (rw [decide_eq_true (by omega), c18, c27]; rfl))) rfl dX11_canTakeSeat_35
      · skip
        refine tj_iconst 31 dX11_canTakeSeat_30 rfl ?_
        refine ev_goto 35 dX11_canTakeSeat_31 (by decide) ?_
        exact tz_ret (by first | rfl | omega | exact bi_dt (by omega) | exact bi_df (by omega) | (unfold canT; first | (rw [decide_eq_false (by omega)]; rfl) | (rw [decide_eq_true (by omega), c18]; rfl) | (rw [decide_eq_true (by omega), c18, c27]; rfl))) rfl dX11_canTakeSeat_35
