set_option maxRecDepth 100000 in
set_option maxHeartbeats 4000000 in
theorem c_X2_stopWaiting {g : Gt} {α : AL} {ν : Nat → Nat → Bool} {X : XM} {h : AH} (hT : TR g α ν X h) (hW : WX ν X) {c : Nat} (hc : (c : Int) < nC X) {s : Nat} (hs : ν 4 s = true) (hl : s < 17) : Mu g α ν M_X2_stopWaiting 7 [.ref (α 12 c), .ref (α 4 s)] h (none) (fun X' => X' = if place X c s = -1 then X else lv X c (place X c s).toNat) := by
  refine mu_of rfl rfl (ls := [some (.ref (α 12 c)), some (.ref (α 4 s)), none]) rfl (Nat.le_of_ble_eq_true rfl) ?_
  show Ev g M_X2_stopWaiting 7 0 [some (.ref (α 12 c)), some (.ref (α 4 s)), none] [] h 0 0 (UQ g α ν (none) (fun X' => X' = if place X c s = -1 then X else lv X c (place X c s).toNat))
  have q1 := wo_nC hW.1
  have q3 := wo_nS hW.1
  have q5 := wo_wN hW.1 c hc
  have q6 := place_R hW.1 hc s
  have q7 := plc_R X c s (X 1 (4 + c) 2).toNat
  refine ev_ald0 1 dX2_stopWaiting_0 rfl ?_
  refine ev_ald1 2 dX2_stopWaiting_1 rfl ?_
  refine tc_V1 5 5 dX2_stopWaiting_2 lkv_X2_43 (tr12 hT (by first | assumption | exact wx_stu hW (by omega) | exact wx_crs hW (by omega) | exact wx_new hW)) rfl rfl (by first | decide | omega) (Nat.le_of_ble_eq_true rfl) (c_X2_placeFor hT hW (by omega) (by first | assumption | exact wx_stu hW (by omega)) (by omega)) ?_
  refine ev_ist2 6 dX2_stopWaiting_5 rfl (by decide) rfl ?_
  refine ev_ild2 7 dX2_stopWaiting_6 rfl ?_
  refine tj_iconst 8 dX2_stopWaiting_7 rfl ?_
  refine tj_icmp_eq 20 11 dX2_stopWaiting_8 (by decide) rfl (by first | exact TR.rng hT _ _ _ | exact R31_of _ | exact bi_R _ | (constructor <;> omega)) (by first | exact TR.rng hT _ _ _ | exact R31_of _ | exact bi_R _ | (constructor <;> omega)) (fun c8 => ?_) (fun c8 => ?_)
  · skip
    exact ev_vreturn (uq_v hT (by first | (rw [if_pos (by omega)]) | (rw [if_neg (by omega)]; exact hP16))) rfl dX2_stopWaiting_20
  · skip
    obtain ⟨k, hk⟩ : ∃ k : Nat, place X c s = (k : Int) := ⟨(place X c s).toNat, by omega⟩
    have hk2 : (k : Int) < X 1 (4 + c) 2 := by have := q7.2; unfold place at hk; omega
    rw [hk]
    refine ev_ald0 12 dX2_stopWaiting_11 rfl ?_
    refine ev_getfield 15 5 4 fl_X2_18_5 (tr12 hT (by first | assumption | exact wx_stu hW (by omega) | exact wx_crs hW (by omega) | exact wx_new hW)) rfl dX2_stopWaiting_12 rfl ?_
    refine ev_ild2 16 dX2_stopWaiting_15 rfl ?_
    refine tm_V1 19 2 dX2_stopWaiting_16 lkv_X2_47 (tr1_W hT (by first | assumption | exact wx_stu hW (by omega) | exact wx_crs hW (by omega) | exact wx_new hW)) rfl rfl (by first | decide | omega) (Nat.le_of_ble_eq_true rfl) (c_Jx4a65c_remove_915e3 hT hW (by omega) (by omega)) (fun h X1 hT hP16 => ?_)
    refine ev_pop 20 dX2_stopWaiting_19 rfl rfl ?_
    exact ev_vreturn (uq_v hT (by first | (rw [if_pos (by omega)]) | (rw [if_neg (by omega)]; exact hP16))) rfl dX2_stopWaiting_20
theorem seat_comm (X : XM) (c k : Nat) : xs (lv X c k) 5 (X 2 (4 + c) (k + 1)).toNat c 1 = seat X c k := by
  unfold seat
  generalize (X 2 (4 + c) (k + 1)).toNat = s
  have m1 : xs X 5 s c 1 1 = X 1 := xs_nk (by decide)
  have m2 : xs X 5 s c 1 2 = X 2 := xs_nk (by decide)
  funext kk i
  by_cases c5 : kk = 5
  · subst c5
    rw [lv_k (by decide) (by decide)]
    funext j
    rw [xs_all, xs_all, lv_k (by decide) (by decide)]
  · rw [xs_nk c5]
    unfold lv
    rw [m1, m2]
    by_cases a1 : kk = 1 ∧ i = 4 + c
    · rw [if_pos a1, if_pos a1]
    · rw [if_neg a1, if_neg a1]
      by_cases a2 : kk = 2 ∧ i = 4 + c
      · rw [if_pos a2, if_pos a2]
      · rw [if_neg a2, if_neg a2, xs_nk c5]
set_option maxRecDepth 100000 in
set_option maxHeartbeats 4000000 in
theorem c_X11_giveSeatIn {g : Gt} {α : AL} {ν : Nat → Nat → Bool} {X : XM} {h : AH} (hT : TR g α ν X h) (hW : WX ν X) {c : Nat} (hc : (c : Int) < nC X) : Mu g α ν M_X11_giveSeatIn 7 [.ref (α 0 0), .ref (α 12 c)] h (some (.int (J (bi (fk X c (X 1 (4 + c) 2).toNat).isSome)))) (fun X' => (fk X c (X 1 (4 + c) 2).toNat = none ∧ X' = X) ∨ ∃ k, fk X c (X 1 (4 + c) 2).toNat = some k ∧ X' = seat X c k) := by
  refine mu_of rfl rfl (ls := [some (.ref (α 0 0)), some (.ref (α 12 c)), none, none]) rfl (Nat.le_of_ble_eq_true rfl) ?_
  show Ev g M_X11_giveSeatIn 7 0 [some (.ref (α 0 0)), some (.ref (α 12 c)), none, none] [] h 0 0 (UQ g α ν (some (.int (J (bi (fk X c (X 1 (4 + c) 2).toNat).isSome)))) (fun X' => (fk X c (X 1 (4 + c) 2).toNat = none ∧ X' = X) ∨ ∃ k, fk X c (X 1 (4 + c) 2).toNat = some k ∧ X' = seat X c k))
  have q1 := wo_nC hW.1
  have q3 := wo_nS hW.1
  have q5 := wo_wN hW.1 c hc
  refine tj_iconst 1 dX11_giveSeatIn_0 rfl ?_
  refine ev_ist2 2 dX11_giveSeatIn_1 rfl (by decide) rfl ?_
  have lp2 : ∀ (n2 : Nat) (k : Nat) (z2 : Int) (o3 : Option Value), 7 - k < n2 → ((k : Int) ≤ X 1 (4 + c) 2) → (fk X c k = none) → z2 = (k : Int) → Ev g M_X11_giveSeatIn 7 2 [some (.ref (α 0 0)), some (.ref (α 12 c)), some (.int (J z2)), o3] [] h 0 0 (UQ g α ν (some (.int (J (bi (fk X c (X 1 (4 + c) 2).toNat).isSome)))) (fun X' => (fk X c (X 1 (4 + c) 2).toNat = none ∧ X' = X) ∨ ∃ k, fk X c (X 1 (4 + c) 2).toNat = some k ∧ X' = seat X c k)) := by
    intro n2
    induction n2 with
    | zero => intro k z2 o3 hm; exact absurd hm (Nat.not_lt_zero _)
    | succ n2 ih2 =>
      intro k z2 o3 hm2 hk hk2 e2
      subst e2
      refine ev_ild2 3 dX11_giveSeatIn_2 rfl ?_
      refine ev_ald1 4 dX11_giveSeatIn_3 rfl ?_
      refine ev_getfield 7 5 4 fl_X11_217_5 (tr12 hT (by first | assumption | exact wx_stu hW (by omega) | exact wx_crs hW (by omega) | exact wx_new hW)) rfl dX11_giveSeatIn_4 rfl ?_
      refine tc_V0 10 2 dX11_giveSeatIn_7 lkv_X11_70 (tr1_W hT (by first | assumption | exact wx_stu hW (by omega) | exact wx_crs hW (by omega) | exact wx_new hW)) rfl rfl (by first | decide | omega) (Nat.le_of_ble_eq_true rfl) (z_W hT hW (by omega)) ?_
      refine tj_icmp_ge 61 13 dX11_giveSeatIn_10 (by decide) rfl (by first | exact TR.rng hT _ _ _ | exact R31_of _ | exact bi_R _ | (constructor <;> omega)) (by first | exact TR.rng hT _ _ _ | exact R31_of _ | exact bi_R _ | (constructor <;> omega)) (fun c10 => ?_) (fun c10 => ?_)
      · skip
        have hnone : fk X c (X 1 (4 + c) 2).toNat = none := by rw [show (X 1 (4 + c) 2).toNat = k by omega]; exact hk2
        refine tj_iconst 62 dX11_giveSeatIn_61 rfl ?_
        exact tz_retU (by first | rfl | omega | exact bi_dt (by omega) | exact bi_df (by omega) | (first | (rw [hfst]; rfl) | (rw [hnone]; rfl))) hT (by first | exact Or.inl ⟨hnone, rfl⟩ | exact Or.inr ⟨k, hfst, by rw [hP39, ← r5]; exact seat_comm X c k⟩) rfl dX11_giveSeatIn_62
      · skip
        have r4 := wo_wA hW.1 c k hc (by omega)
        obtain ⟨s, r5⟩ : ∃ s : Nat, (X 2 (4 + c) (k + 1)).toNat = s := ⟨_, rfl⟩
        have r6 := wx_stu hW (s := s) (by omega)
        have hk9 : (k : Int) < X 1 (4 + c) 2 := by omega
        refine ev_ald1 14 dX11_giveSeatIn_13 rfl ?_
        refine ev_getfield 17 5 4 fl_X11_217_5 (tr12 hT (by first | assumption | exact wx_stu hW (by omega) | exact wx_crs hW (by omega) | exact wx_new hW)) rfl dX11_giveSeatIn_14 rfl ?_
        refine ev_ild2 18 dX11_giveSeatIn_17 rfl ?_
        refine tc_V1 21 2 dX11_giveSeatIn_18 lkv_X11_276 (tr1_W hT (by first | assumption | exact wx_stu hW (by omega) | exact wx_crs hW (by omega) | exact wx_new hW)) rfl rfl (by first | decide | omega) (Nat.le_of_ble_eq_true rfl) (g_W hT hW (by omega) (by omega)) ?_
        rw [r5]
        refine ev_castS 24 dX11_giveSeatIn_21 cl_X11_29 (tr4 hT (by first | assumption | exact wx_stu hW (by omega) | exact wx_crs hW (by omega) | exact wx_new hW) (by omega)) rfl rfl ?_
        refine ev_ast3 25 dX11_giveSeatIn_24 rfl (by decide) rfl ?_
        refine ev_ald0 26 dX11_giveSeatIn_25 rfl ?_
        refine ev_ald3 27 dX11_giveSeatIn_26 rfl ?_
        refine ev_ald1 28 dX11_giveSeatIn_27 rfl ?_
        refine tc_V2 31 13 dX11_giveSeatIn_28 lkv_X11_437 (tr0 hT) rfl rfl (by first | decide | omega) (Nat.le_of_ble_eq_true rfl) (c_X11_canTakeSeat hT hW (by omega) (by omega)) ?_
        refine tb_if_eq 55 34 dX11_giveSeatIn_31 (by decide) rfl (fun c31 => ?_) (fun c31 => ?_)
        · skip
          refine tj_inc2 58 dX11_giveSeatIn_55 rfl (by decide) rfl ?_
          refine ev_goto 2 dX11_giveSeatIn_58 (by decide) ?_
          exact ih2 (k + 1) _ _ (by omega) (by first | omega | assumption | first | rfl | exact fk_miss hk2 (by rw [r5]; exact c31)) (by first | omega | assumption | first | rfl | exact fk_miss hk2 (by rw [r5]; exact c31)) (by first | rfl | omega | (omega))
        · skip
          have hfst : fk X c (X 1 (4 + c) 2).toNat = some k := fk_hit hk2 (by rw [r5]; exact c31) _ (by omega)
          refine ev_ald1 35 dX11_giveSeatIn_34 rfl ?_
          refine ev_getfield 38 5 4 fl_X11_217_5 (tr12 hT (by first | assumption | exact wx_stu hW (by omega) | exact wx_crs hW (by omega) | exact wx_new hW)) rfl dX11_giveSeatIn_35 rfl ?_
          refine ev_ild2 39 dX11_giveSeatIn_38 rfl ?_
          refine tm_V1 42 2 dX11_giveSeatIn_39 lkv_X11_440 (tr1_W hT (by first | assumption | exact wx_stu hW (by omega) | exact wx_crs hW (by omega) | exact wx_new hW)) rfl rfl (by first | decide | omega) (Nat.le_of_ble_eq_true rfl) (c_Jx4a65c_remove_915e3 hT hW (by omega) (by omega)) (fun h X1 hT hP39 => ?_)
          have hv := hT
          have l5 : X1 = lv X c k := hP39
          refine ev_pop 43 dX11_giveSeatIn_42 rfl rfl ?_
          refine ev_ald3 44 dX11_giveSeatIn_43 rfl ?_
          refine ev_getfield 47 10 1 fl_X11_214_10 (tr4 hT (by first | assumption | exact wx_stu hW (by omega) | exact wx_crs hW (by omega) | exact wx_new hW) (by omega)) rfl dX11_giveSeatIn_44 rfl ?_
          refine ev_ald1 48 dX11_giveSeatIn_47 rfl ?_
          refine ev_getfield 51 5 0 fl_X11_428_5 (tr12 hT (by first | assumption | exact wx_stu hW (by omega) | exact wx_crs hW (by omega) | exact wx_new hW)) rfl dX11_giveSeatIn_48 rfl ?_
          refine tj_iconst 52 dX11_giveSeatIn_51 rfl ?_
          first | refine tv_zast 53 hT (tv5 hT (by first | assumption | exact wx_stu hW (by omega) | exact wx_crs hW (by omega) | exact wx_new hW) (by omega)) (fun _ => rfl) _ rfl (by omega) (by omega) (by first | omega | exact bi_01 _) dX11_giveSeatIn_52 rfl (fun h hT => ?_) | refine tv_zast 53 hT (tv5 hT (by first | assumption | exact wx_stu hW (by omega) | exact wx_crs hW (by omega) | exact wx_new hW) (by omega)) (fun _ => rfl) (Int.toNat _) (by omega) (by omega) (by omega) (by first | omega | exact bi_01 _) dX11_giveSeatIn_52 rfl (fun h hT => ?_)
          refine tj_iconst 54 dX11_giveSeatIn_53 rfl ?_
          exact tz_retU (by first | rfl | omega | exact bi_dt (by omega) | exact bi_df (by omega) | (first | (rw [hfst]; rfl) | (rw [hnone]; rfl))) hT (by first | exact Or.inl ⟨hnone, rfl⟩ | exact Or.inr ⟨k, hfst, by rw [hP39, ← r5]; exact seat_comm X c k⟩) rfl dX11_giveSeatIn_54
  exact lp2 _ (0) _ _ (Nat.lt_succ_self _) (by first | omega | assumption | first | rfl | exact fk_miss hk2 (by rw [r5]; exact c31)) (by first | omega | assumption | first | rfl | exact fk_miss hk2 (by rw [r5]; exact c31)) (by first | rfl | omega | (omega))
set_option maxRecDepth 100000 in
set_option maxHeartbeats 4000000 in
theorem c_X11_giveOutSeats {g : Gt} {α : AL} {ν : Nat → Nat → Bool} {X : XM} {h : AH} (hT : TR g α ν X h) (hW : WX ν X) : Mu g α ν M_X11_giveOutSeats 8 [.ref (α 0 0)] h (none) (fun X' => X' = gv X ∧ WX ν X') := by
  refine mu_of rfl rfl (ls := [some (.ref (α 0 0)), none, none]) rfl (Nat.le_of_ble_eq_true rfl) ?_
  show Ev g M_X11_giveOutSeats 8 0 [some (.ref (α 0 0)), none, none] [] h 0 0 (UQ g α ν (none) (fun X' => X' = gv X ∧ WX ν X'))
  have q1 := wo_nC hW.1
  have q3 := wo_nS hW.1
  have q4 := wo_day hW.1
  have q6 := tw_0 hW.1
  refine ev_ald0 1 dX11_giveOutSeats_0 rfl ?_
  refine ev_getfield 4 13 5 fl_X11_180_13 (tr0 hT) rfl dX11_giveOutSeats_1 rfl ?_
  refine tj_iconst 5 dX11_giveOutSeats_4 rfl ?_
  refine tj_icmp_le 9 8 dX11_giveOutSeats_5 (by decide) rfl (by first | exact TR.rng hT _ _ _ | exact R31_of _ | exact bi_R _ | (constructor <;> omega)) (by first | exact TR.rng hT _ _ _ | exact R31_of _ | exact bi_R _ | (constructor <;> omega)) (fun c5 => ?_) (fun c5 => ?_)
  · skip
    refine tj_iconst 10 dX11_giveOutSeats_9 rfl ?_
    refine ev_ist1 11 dX11_giveOutSeats_10 rfl (by decide) rfl ?_
    refine tj_iconst 12 dX11_giveOutSeats_11 rfl ?_
    refine ev_ist2 13 dX11_giveOutSeats_12 rfl (by decide) rfl ?_
    have lp13 : ∀ (n13 c n z : Nat) (z1 z2 : Int) (h2 : AH) (X2 : XM), 2421 - z < n13 → (c : Int) ≤ nC X → (z : Int) + 20 * tw X2 + (nC X - c) ≤ 2420 → WX ν X2 → nC X2 = nC X → fc X2 c = none → tw X2 < n ∧ gvN n X2 = gv X → z1 = (c : Int) → z2 = (z : Int) → TR g α ν X2 h2 → Ev g M_X11_giveOutSeats 8 13 [some (.ref (α 0 0)), some (.int (J z1)), some (.int (J z2))] [] h2 0 0 (UQ g α ν (none) (fun X' => X' = gv X ∧ WX ν X')) := by
      intro n13
      induction n13 with
      | zero => intro c n z z1 z2 h2 X2 hm; exact absurd hm (Nat.not_lt_zero _)
      | succ n13 ih13 =>
        intro c n z z1 z2 h2 X2 hm13 hc hz hW2 hnc hf hn e1 e2 hT
        subst e1
        subst e2
        have g0 := tw_0 hW2.1
        refine ev_ild2 14 dX11_giveOutSeats_13 rfl ?_
        refine tj_sipush 17 dX11_giveOutSeats_14 (by decide) rfl ?_
        refine tj_icmp_ge 63 20 dX11_giveOutSeats_17 (by decide) rfl (by first | exact TR.rng hT _ _ _ | exact R31_of _ | exact bi_R _ | (constructor <;> omega)) (by first | exact TR.rng hT _ _ _ | exact R31_of _ | exact bi_R _ | (constructor <;> omega)) (fun c17 => ?_) (fun c17 => ?_)
        · skip
          have g3 := tw_0 hW2.1
          have hnone : fstW X2 = none := by unfold fstW; rw [hnc, show (nC X).toNat = c by omega]; exact hf
          exact ev_vreturn (uq_v hT (by first | exact ⟨by rw [← hn.2, gvN_none hnone], hW2⟩ | exact ⟨by unfold gv; rw [if_pos (by omega)], hW⟩)) rfl dX11_giveOutSeats_63
        · skip
          refine ev_ild1 21 dX11_giveOutSeats_20 rfl ?_
          refine ev_ald0 22 dX11_giveOutSeats_21 rfl ?_
          refine ev_getfield 25 13 0 fl_X11_12_13 (tr0 hT) rfl dX11_giveOutSeats_22 rfl ?_
          refine tc_V0 28 2 dX11_giveOutSeats_25 lkv_X11_70 (tr1_0 hT) rfl rfl (by first | decide | omega) (Nat.le_of_ble_eq_true rfl) (hnc ▸ z_C hT hW2) ?_
          refine tj_icmp_ge 63 31 dX11_giveOutSeats_28 (by decide) rfl (by first | exact TR.rng hT _ _ _ | exact R31_of _ | exact bi_R _ | (constructor <;> omega)) (by first | exact TR.rng hT _ _ _ | exact R31_of _ | exact bi_R _ | (constructor <;> omega)) (fun c28 => ?_) (fun c28 => ?_)
          · skip
            have hnone : fstW X2 = none := by unfold fstW; rw [hnc, show (nC X).toNat = c by omega]; exact hf
            exact ev_vreturn (uq_v hT (by first | exact ⟨by rw [← hn.2, gvN_none hnone], hW2⟩ | exact ⟨by unfold gv; rw [if_pos (by omega)], hW⟩)) rfl dX11_giveOutSeats_63
          · skip
            refine ev_ald0 32 dX11_giveOutSeats_31 rfl ?_
            refine ev_ald0 33 dX11_giveOutSeats_32 rfl ?_
            refine ev_getfield 36 13 0 fl_X11_12_13 (tr0 hT) rfl dX11_giveOutSeats_33 rfl ?_
            refine ev_ild1 37 dX11_giveOutSeats_36 rfl ?_
            refine tc_V1 40 2 dX11_giveOutSeats_37 lkv_X11_276 (tr1_0 hT) rfl rfl (by first | decide | omega) (Nat.le_of_ble_eq_true rfl) (g_C hT hW2 (by omega)) ?_
            refine ev_castS 43 dX11_giveOutSeats_40 cl_X11_79 (tr12 hT (by first | assumption | exact wx_stu hW (by omega) | exact wx_crs hW (by omega) | exact wx_new hW)) rfl rfl ?_
            refine tm_V1 46 13 dX11_giveOutSeats_43 lkv_X11_434 (tr0 hT) rfl rfl (by first | decide | omega) (Nat.le_of_ble_eq_true rfl) (c_X11_giveSeatIn hT hW2 (by omega)) (fun h X1 hT hP43 => ?_)
            refine tb_if_eq 53 49 dX11_giveOutSeats_46 (by decide) rfl (fun c46 => ?_) (fun c46 => ?_)
            · skip
              refine ev_ild1 54 dX11_giveOutSeats_53 rfl ?_
              refine tj_iconst 55 dX11_giveOutSeats_54 rfl ?_
              refine tj_iadd 56 dX11_giveOutSeats_55 rfl ?_
              refine ev_ist1 57 dX11_giveOutSeats_56 rfl (by decide) rfl ?_
              refine tj_inc2 60 dX11_giveOutSeats_57 rfl (by decide) rfl ?_
              refine ev_goto 13 dX11_giveOutSeats_60 (by decide) ?_
              rcases hP43 with ⟨e, e2⟩ | ⟨k, e, e2⟩
              · first
                | (exfalso; rw [e] at c46; simp at c46; done)
                | exact ih13 (c + 1) n (z + 1) _ _ _ _ (by omega) (by omega) (by rw [e2]; omega) (by rw [e2]; exact hW2) (by rw [e2]; exact hnc) (by rw [e2]; exact fc_miss hf e) (by rw [e2]; exact hn) (by omega) (by omega) hT
              · first
                | (exfalso; rw [e] at c46; simp at c46; done)
                | (have f1 : fstW X2 = some (c, k) := fc_hit hf e _ (by omega)
                   have f2 := fst_lt hW2.1 f1
                   have g3 := tw_0 hW2.1
                   have f3 := tw_seat (X := X2) c k f2.1
                   exact ih13 0 (n - 1) (z + 1) _ _ _ _ (by omega) (by omega) (by rw [e2, f3]; omega) (by rw [e2]; exact wx_seat hW2 f2.1 f2.2.1) (by rw [e2]; exact (seat_l X2 c k (by omega)).trans hnc) rfl ⟨by rw [e2, f3]; omega, by rw [e2, ← hn.2, show n = n - 1 + 1 by omega, gvN_some f1]; rfl⟩ rfl (by omega) hT)
            · skip
              refine tj_iconst 50 dX11_giveOutSeats_49 rfl ?_
              refine ev_goto 56 dX11_giveOutSeats_50 (by decide) ?_
              refine ev_ist1 57 dX11_giveOutSeats_56 rfl (by decide) rfl ?_
              refine tj_inc2 60 dX11_giveOutSeats_57 rfl (by decide) rfl ?_
              refine ev_goto 13 dX11_giveOutSeats_60 (by decide) ?_
              rcases hP43 with ⟨e, e2⟩ | ⟨k, e, e2⟩
              · first
                | (exfalso; rw [e] at c46; simp at c46; done)
                | exact ih13 (c + 1) n (z + 1) _ _ _ _ (by omega) (by omega) (by rw [e2]; omega) (by rw [e2]; exact hW2) (by rw [e2]; exact hnc) (by rw [e2]; exact fc_miss hf e) (by rw [e2]; exact hn) (by omega) (by omega) hT
              · first
                | (exfalso; rw [e] at c46; simp at c46; done)
                | (have f1 : fstW X2 = some (c, k) := fc_hit hf e _ (by omega)
                   have f2 := fst_lt hW2.1 f1
                   have g3 := tw_0 hW2.1
                   have f3 := tw_seat (X := X2) c k f2.1
                   exact ih13 0 (n - 1) (z + 1) _ _ _ _ (by omega) (by omega) (by rw [e2, f3]; omega) (by rw [e2]; exact wx_seat hW2 f2.1 f2.2.1) (by rw [e2]; exact (seat_l X2 c k (by omega)).trans hnc) rfl ⟨by rw [e2, f3]; omega, by rw [e2, ← hn.2, show n = n - 1 + 1 by omega, gvN_some f1]; rfl⟩ rfl (by omega) hT)
    exact lp13 _ 0 121 0 _ _ _ _ (Nat.lt_succ_self _) (by omega) (by omega) hW rfl rfl ⟨by omega, by unfold gv; rw [if_neg (by omega)]⟩ rfl rfl hT
  · skip
    exact ev_vreturn (uq_v hT (by first | exact ⟨by rw [← hn.2, gvN_none hnone], hW2⟩ | exact ⟨by unfold gv; rw [if_pos (by omega)], hW⟩)) rfl dX11_giveOutSeats_8
