/-! DROPS AND CHANGES -/
theorem eO_in {e : Int} {ν : Nat → Nat → Bool} {X X2 : XM} {s c : Nat} (hI : INV e ν X) (hs : s < 5) (hc : c < 5) (ht : tak X s c = true) (hP : X2 = gv (eO X s (c : Int))) : INV e ν X2 ∧ (9 ≤ X 0 0 5 ∧ X 0 0 5 ≤ 20 → X2 9 s c = X 9 s c + 1) ∧ (X 0 0 5 < 9 → X2 9 s c = X 9 s c) ∧ (5 < X 0 0 5 → ∀ k, k < 5 → tak X2 s k = true → mayT X2 s k = true) := by
  have hI2 := INV_gv (PRE_eO hI hs hc ht)
  obtain ⟨⟨hW, hV, hS, hO, hTL, hM, he⟩, hN⟩ := id hI
  obtain ⟨eC, eS, eF⟩ := id hO
  have h9 := eO_9 hW.1 (show (s : Int) < nS X by omega) (show (c : Int) < nC X by omega) ht
  have hg : X2 9 s c = eO X s (c : Int) 9 s c := by rw [hP, gv_k (by decide) (by decide) (by decide)]
  rw [← hP] at hI2
  refine ⟨hI2, fun z => ?_, fun z => ?_, fun z k hk h1 => ?_⟩
  · rw [hg, h9, decide_eq_true z]; rfl
  · rw [hg, h9, decide_eq_false (by omega)]; simp [bi]
  · have e1 : X2 = eO X s (c : Int) := by
      rw [hP]
      unfold gv
      rw [if_pos (by rw [eO_k (by decide) (by decide) (by decide) (by decide)]; exact z)]
    rw [e1] at h1 ⊢
    exact eO_met hW.1 (by omega) (by omega) (by omega) ht k (by omega) h1
theorem lv_in {e : Int} {ν : Nat → Nat → Bool} {X X2 : XM} {s c : Nat} (hI : INV e ν X) (hc : c < 5) (hp : 0 ≤ place X c s) (hP : X2 = gv (lv X c (place X c s).toNat)) : INV e ν X2 ∧ X2 9 s c = X 9 s c := by
  obtain ⟨⟨hW, hV, hS, hO, hTL, hM, he⟩, hN⟩ := id hI
  obtain ⟨eC, eS, eF⟩ := id hO
  have hwn := wo_wN hW.1 c (by omega)
  have hpR := plc_R X c s (X 1 (4 + c) 2).toNat
  have hpl : place X c s = plc X c s (X 1 (4 + c) 2).toNat := rfl
  have hI2 := INV_gv (PRE_lv hI hc (k := (place X c s).toNat) (by omega))
  rw [← hP] at hI2
  exact ⟨hI2, by rw [hP, gv_k (by decide) (by decide) (by decide), lv_k (by decide) (by decide)]⟩
set_option maxRecDepth 100000 in
set_option maxHeartbeats 4000000 in
theorem c_L_drops {g : Gt} {α : AL} {ν : Nat → Nat → Bool} {X : XM} {h : AH} {e : Int} (hT : TR g α ν X h) (hI : INV e ν X) {s : Nat} (hs : s < 5) {c : Nat} (hc : c < 5)  : Al g M_L_drops 47 [.ref (α 0 0), .ref (α 40 0), .int (J (s : Int)), .int (J (c : Int))] h 3646 21876 (some (.int (J (bi true)))) ((fun α' ν' X' => α' 0 0 = α 0 0 ∧ α' 40 0 = α 40 0 ∧ INV e ν' X')) := by
  refine ct_of_ev rfl rfl (ls := [some (.ref (α 0 0)), some (.ref (α 40 0)), some (.int (J (s : Int))), some (.int (J (c : Int))), none, none, none, none, none, none]) rfl (Nat.le_of_ble_eq_true rfl) ?_
  show Ev g M_L_drops 47 0 [some (.ref (α 0 0)), some (.ref (α 40 0)), some (.int (J (s : Int))), some (.int (J (c : Int))), none, none, none, none, none, none] [] h 3646 21876 (AQ g (some (.int (J (bi true)))) ((fun α' ν' X' => α' 0 0 = α 0 0 ∧ α' 40 0 = α 40 0 ∧ INV e ν' X')))
  obtain ⟨⟨hW, hV, hS, hO, hTL, hM, he⟩, hN⟩ := id hI
  obtain ⟨eC, eS, eF⟩ := id hO
  have hdy := wo_day hW.1
  have htr := wo_tri hW.1 s c (by omega) (by omega)
  have hpR := place_R hW.1 (show (c : Int) < nC X by omega) s
  have hwn := wo_wN hW.1 c (by omega)
  refine ev_ald0 1 dL_drops_0 rfl ?_
  refine ev_ild2 2 dL_drops_1 rfl ?_
  refine ev_ild3 3 dL_drops_2 rfl ?_
  refine tc_V2 6 13 dL_drops_3 lkv_L_154 (tr0 hT) rfl rfl (by first | decide | omega) (Nat.le_of_ble_eq_true rfl) (c_X11_isEnrolled_ok hT hW (by omega) (by omega)) ?_
  refine ev_ist4 8 dL_drops_6 rfl (by decide) rfl ?_
  refine ev_ild4 10 dL_drops_8 rfl ?_
  refine tb_if_ne 22 13 dL_drops_10 (by decide) rfl (fun c10 => ?_) (fun c10 => ?_)
  · skip
    refine ev_ald0 23 dL_drops_22 rfl ?_
    refine tc_V0 26 13 dL_drops_23 lkv_L_157 (tr0 hT) rfl rfl (by first | decide | omega) (Nat.le_of_ble_eq_true rfl) (c_X11_day_ok hT hW) ?_
    refine tj_bipush 28 dL_drops_26 (by decide) rfl ?_
    refine tj_icmp_le 33 31 dL_drops_28 (by decide) rfl (by first | exact TR.rng hT _ _ _ | exact R31_of _ | exact bi_R _ | assumption | (constructor <;> omega)) (by first | exact TR.rng hT _ _ _ | exact R31_of _ | exact bi_R _ | assumption | (constructor <;> omega)) (fun c28 => ?_) (fun c28 => ?_)
    · skip
      refine ev_ald0 34 dL_drops_33 rfl ?_
      refine ev_ild2 35 dL_drops_34 rfl ?_
      refine ev_ild3 36 dL_drops_35 rfl ?_
      refine tc_V2 39 13 dL_drops_36 lkv_L_166 (tr0 hT) rfl rfl (by first | decide | omega) (Nat.le_of_ble_eq_true rfl) (c_X11_attempts_ok hT hW (by omega) (by omega)) ?_
      refine ev_ist5 41 dL_drops_39 rfl (by decide) rfl ?_
      refine ev_ald0 42 dL_drops_41 rfl ?_
      refine tc_V0 45 13 dL_drops_42 lkv_L_157 (tr0 hT) rfl rfl (by first | decide | omega) (Nat.le_of_ble_eq_true rfl) (c_X11_day_ok hT hW) ?_
      refine ev_ist6 47 dL_drops_45 rfl (by decide) rfl ?_
      refine ev_ald0 48 dL_drops_47 rfl ?_
      refine ev_ild2 49 dL_drops_48 rfl ?_
      refine ev_ild3 50 dL_drops_49 rfl ?_
      refine tm_V2 53 13 dL_drops_50 lkv_L_169 (tr0 hT) rfl rfl (by first | decide | omega) (Nat.le_of_ble_eq_true rfl) (c_X11_drop_okt hT hW (by omega) (by omega) c10 (by omega)) (fun h X2 hT hP50 => ?_)
      obtain ⟨hI2, h91, h92, hmet⟩ := eO_in hI hs hc c10 hP50.1
      obtain ⟨⟨hW, hV, hS, hO, hTL, hM, he⟩, hN⟩ := id hI2
      obtain ⟨eC, eS, eF⟩ := id hO
      obtain ⟨G, hG⟩ : ∃ G : Int, G = (if 9 ≤ X 0 0 5 then 119 else 100) := ⟨_, rfl⟩
      rw [← hG]
      have hGR : R31 G := by constructor <;> (split at hG <;> omega)
      refine ev_ist7 55 dL_drops_53 rfl (by decide) rfl ?_
      refine ev_ild7 57 dL_drops_55 rfl ?_
      refine ev_ild4 59 dL_drops_57 rfl ?_
      refine tb_if_eq 79 62 dL_drops_59 (by decide) rfl (fun c59 => ?_) (fun c59 => ?_)
      · exact False.elim (by rw [c10] at c59; cases c59)
      · skip
        refine ev_ild6 64 dL_drops_62 rfl ?_
        refine tj_bipush 66 dL_drops_64 (by decide) rfl ?_
        refine tj_icmp_ge 74 69 dL_drops_66 (by decide) rfl (by first | exact TR.rng hT _ _ _ | exact R31_of _ | exact bi_R _ | assumption | (constructor <;> omega)) (by first | exact TR.rng hT _ _ _ | exact R31_of _ | exact bi_R _ | assumption | (constructor <;> omega)) (fun c66 => ?_) (fun c66 => ?_)
        · skip
          refine tj_bipush 76 dL_drops_74 (by decide) rfl ?_
          refine ev_goto 81 dL_drops_76 (by decide) ?_
          refine tj_icmp_ne 112 84 dL_drops_81 (by decide) rfl (by first | exact TR.rng hT _ _ _ | exact R31_of _ | exact bi_R _ | assumption | (constructor <;> omega)) (by first | exact TR.rng hT _ _ _ | exact R31_of _ | exact bi_R _ | assumption | (constructor <;> omega)) (fun c81 => ?_) (fun c81 => ?_)
          · exact False.elim (by split at hG <;> omega)
          · skip
            refine ev_ald0 85 dL_drops_84 rfl ?_
            refine ev_ild2 86 dL_drops_85 rfl ?_
            refine ev_ild3 87 dL_drops_86 rfl ?_
            refine tc_V2 90 13 dL_drops_87 lkv_L_166 (tr0 hT) rfl rfl (by first | decide | omega) (Nat.le_of_ble_eq_true rfl) (c_X11_attempts_ok hT hW (by omega) (by omega)) ?_
            refine ev_ild5 92 dL_drops_90 rfl ?_
            refine ev_ild7 94 dL_drops_92 rfl ?_
            refine tj_bipush 96 dL_drops_94 (by decide) rfl ?_
            refine tj_icmp_ne 103 99 dL_drops_96 (by decide) rfl (by first | exact TR.rng hT _ _ _ | exact R31_of _ | exact bi_R _ | assumption | (constructor <;> omega)) (by first | exact TR.rng hT _ _ _ | exact R31_of _ | exact bi_R _ | assumption | (constructor <;> omega)) (fun c96 => ?_) (fun c96 => ?_)
            · skip
              refine tj_iconst 104 dL_drops_103 rfl ?_
              refine tj_iadd 105 dL_drops_104 rfl ?_
              refine tj_icmp_ne 112 108 dL_drops_105 (by decide) rfl (by first | exact TR.rng hT _ _ _ | exact R31_of _ | exact bi_R _ | assumption | (constructor <;> omega)) (by first | exact TR.rng hT _ _ _ | exact R31_of _ | exact bi_R _ | assumption | (constructor <;> omega)) (fun c105 => ?_) (fun c105 => ?_)
              · exact False.elim (by split at hG <;> omega)
              · skip
                refine tj_iconst 109 dL_drops_108 rfl ?_
                refine ev_goto 113 dL_drops_109 (by decide) ?_
                refine ev_ist8 115 dL_drops_113 rfl (by decide) rfl ?_
                refine tj_iconst 116 dL_drops_115 rfl ?_
                refine ev_ist9 118 dL_drops_116 rfl (by decide) rfl ?_
                have lp118 : ∀ (n118 : Nat) (k : Nat) (q7 : Int) (z9 : Int) , 6 - k < n118 → (k ≤ 5) → z9 = (k : Int) → Ev g M_L_drops 47 118 [some (.ref (α 0 0)), some (.ref (α 40 0)), some (.int (J (s : Int))), some (.int (J (c : Int))), some (.int (J (bi (tak X s c)))), some (.int (J (X 9 s c))), some (.int (J (X 0 0 5))), some (.int (J q7)), some (.int (J 1)), some (.int (J z9))] [] h (729 * (5 - k)) (4374 * (5 - k)) (AQ g (some (.int (J (bi true)))) ((fun α' ν' X' => α' 0 0 = α 0 0 ∧ α' 40 0 = α 40 0 ∧ INV e ν' X'))) := by
                  intro n118
                  induction n118 with
                  | zero => intro k q7 z9 hm; exact absurd hm (Nat.not_lt_zero _)
                  | succ n118 ih118 =>
                    intro k q7 z9 hm118  hk e9
                    subst e9
                    refine ev_ild9 120 dL_drops_118 rfl ?_
                    refine tj_iconst 121 dL_drops_120 rfl ?_
                    refine tj_icmp_ge 174 124 dL_drops_121 (by decide) rfl (by first | exact TR.rng hT _ _ _ | exact R31_of _ | exact bi_R _ | assumption | (constructor <;> omega)) (by first | exact TR.rng hT _ _ _ | exact R31_of _ | exact bi_R _ | assumption | (constructor <;> omega)) (fun c121 => ?_) (fun c121 => ?_)
                    · skip
                      refine ev_ild8 176 dL_drops_174 rfl ?_
                      exact lz_ret (p := true) (by first | rfl | omega | exact bi_dt (by omega) | exact bi_df (by omega) | (rfl)) hT (by exact ⟨rfl, rfl, hI2⟩) rfl dL_drops_176
                    · skip
                      refine ev_ild4 126 dL_drops_124 rfl ?_
                      refine tb_if_eq 174 129 dL_drops_126 (by decide) rfl (fun c126 => ?_) (fun c126 => ?_)
                      · exact False.elim (by rw [c10] at c126; cases c126)
                      · skip
                        refine ev_ild6 131 dL_drops_129 rfl ?_
                        refine tj_iconst 132 dL_drops_131 rfl ?_
                        refine tj_icmp_le 174 135 dL_drops_132 (by decide) rfl (by first | exact TR.rng hT _ _ _ | exact R31_of _ | exact bi_R _ | assumption | (constructor <;> omega)) (by first | exact TR.rng hT _ _ _ | exact R31_of _ | exact bi_R _ | assumption | (constructor <;> omega)) (fun c132 => ?_) (fun c132 => ?_)
                        · skip
                          refine ev_ild8 176 dL_drops_174 rfl ?_
                          exact lz_ret (p := true) (by first | rfl | omega | exact bi_dt (by omega) | exact bi_df (by omega) | (rfl)) hT (by exact ⟨rfl, rfl, hI2⟩) rfl dL_drops_176
                        · skip
                          refine ev_ild8 137 dL_drops_135 rfl ?_
                          refine tj_if_eq 165 140 dL_drops_137 (by decide) rfl (by first | exact TR.rng hT _ _ _ | exact R31_of _ | exact bi_R _ | assumption | (constructor <;> omega)) (fun c137 => ?_) (fun c137 => ?_)
                          · exact False.elim (by omega)
                          · skip
                            refine ev_ald0 141 dL_drops_140 rfl ?_
                            refine ev_ild2 142 dL_drops_141 rfl ?_
                            refine ev_ild9 144 dL_drops_142 rfl ?_
                            refine tc_V2 147 13 dL_drops_144 lkv_L_154 (tr0 hT) rfl rfl (by first | decide | omega) (Nat.le_of_ble_eq_true rfl) (c_X11_isEnrolled_ok hT hW (by omega) (by omega)) ?_
                            refine tb_if_eq 161 150 dL_drops_147 (by decide) rfl (fun c147 => ?_) (fun c147 => ?_)
                            · skip
                              refine tj_iconst 162 dL_drops_161 rfl ?_
                              refine ev_goto 166 dL_drops_162 (by decide) ?_
                              refine ev_ist8 168 dL_drops_166 rfl (by decide) rfl ?_
                              refine tj_inc9 171 dL_drops_168 rfl (by decide) rfl ?_
                              refine ev_goto 118 dL_drops_171 (by decide) ?_
                              exact ev_mono (by omega) (by omega) (ih118 (k + 1) (q7) _ (by omega) (by first | omega | assumption | omega) (by first | rfl | omega | (omega)))
                            · skip
                              refine ev_ald1 151 dL_drops_150 rfl ?_
                              refine ev_ald0 152 dL_drops_151 rfl ?_
                              refine ev_ild2 153 dL_drops_152 rfl ?_
                              refine ev_ild9 155 dL_drops_153 rfl ?_
                              refine tp_V (729 * (5 - (k + 1))) (4374 * (5 - (k + 1))) 158 14 dL_drops_155 lkv_L_161 (tr40 hT) rfl (c_X12_may hT hW hO hTL (by omega) (by omega)) (by first | decide | omega) rfl rfl (Nat.le_of_ble_eq_true rfl) rfl (by omega) (by omega) ?_
                              refine tb_if_eq 165 161 dL_drops_158 (by decide) rfl (fun c158 => ?_) (fun c158 => ?_)
                              · exact False.elim (by rw [hmet (by omega) k (by omega) c147] at c158; cases c158)
                              · skip
                                refine tj_iconst 162 dL_drops_161 rfl ?_
                                refine ev_goto 166 dL_drops_162 (by decide) ?_
                                refine ev_ist8 168 dL_drops_166 rfl (by decide) rfl ?_
                                refine tj_inc9 171 dL_drops_168 rfl (by decide) rfl ?_
                                refine ev_goto 118 dL_drops_171 (by decide) ?_
                                exact ev_mono (by omega) (by omega) (ih118 (k + 1) (q7) _ (by omega) (by first | omega | assumption | omega) (by first | rfl | omega | (omega)))
                exact ev_mono (by omega) (by omega) (lp118 _ (0) (_) _ (Nat.lt_succ_self _) (by first | omega | assumption | omega) (by first | rfl | omega | (omega)))
            · skip
              refine tj_iconst 100 dL_drops_99 rfl ?_
              refine ev_goto 104 dL_drops_100 (by decide) ?_
              refine tj_iadd 105 dL_drops_104 rfl ?_
              refine tj_icmp_ne 112 108 dL_drops_105 (by decide) rfl (by first | exact TR.rng hT _ _ _ | exact R31_of _ | exact bi_R _ | assumption | (constructor <;> omega)) (by first | exact TR.rng hT _ _ _ | exact R31_of _ | exact bi_R _ | assumption | (constructor <;> omega)) (fun c105 => ?_) (fun c105 => ?_)
              · exact False.elim (by split at hG <;> omega)
              · skip
                refine tj_iconst 109 dL_drops_108 rfl ?_
                refine ev_goto 113 dL_drops_109 (by decide) ?_
                refine ev_ist8 115 dL_drops_113 rfl (by decide) rfl ?_
                refine tj_iconst 116 dL_drops_115 rfl ?_
                refine ev_ist9 118 dL_drops_116 rfl (by decide) rfl ?_
                have lp118 : ∀ (n118 : Nat) (k : Nat) (q7 : Int) (z9 : Int) , 6 - k < n118 → (k ≤ 5) → z9 = (k : Int) → Ev g M_L_drops 47 118 [some (.ref (α 0 0)), some (.ref (α 40 0)), some (.int (J (s : Int))), some (.int (J (c : Int))), some (.int (J (bi (tak X s c)))), some (.int (J (X 9 s c))), some (.int (J (X 0 0 5))), some (.int (J q7)), some (.int (J 1)), some (.int (J z9))] [] h (729 * (5 - k)) (4374 * (5 - k)) (AQ g (some (.int (J (bi true)))) ((fun α' ν' X' => α' 0 0 = α 0 0 ∧ α' 40 0 = α 40 0 ∧ INV e ν' X'))) := by
                  intro n118
                  induction n118 with
                  | zero => intro k q7 z9 hm; exact absurd hm (Nat.not_lt_zero _)
                  | succ n118 ih118 =>
                    intro k q7 z9 hm118  hk e9
                    subst e9
                    refine ev_ild9 120 dL_drops_118 rfl ?_
                    refine tj_iconst 121 dL_drops_120 rfl ?_
                    refine tj_icmp_ge 174 124 dL_drops_121 (by decide) rfl (by first | exact TR.rng hT _ _ _ | exact R31_of _ | exact bi_R _ | assumption | (constructor <;> omega)) (by first | exact TR.rng hT _ _ _ | exact R31_of _ | exact bi_R _ | assumption | (constructor <;> omega)) (fun c121 => ?_) (fun c121 => ?_)
                    · skip
                      refine ev_ild8 176 dL_drops_174 rfl ?_
                      exact lz_ret (p := true) (by first | rfl | omega | exact bi_dt (by omega) | exact bi_df (by omega) | (rfl)) hT (by exact ⟨rfl, rfl, hI2⟩) rfl dL_drops_176
                    · skip
                      refine ev_ild4 126 dL_drops_124 rfl ?_
                      refine tb_if_eq 174 129 dL_drops_126 (by decide) rfl (fun c126 => ?_) (fun c126 => ?_)
                      · exact False.elim (by rw [c10] at c126; cases c126)
                      · skip
                        refine ev_ild6 131 dL_drops_129 rfl ?_
                        refine tj_iconst 132 dL_drops_131 rfl ?_
                        refine tj_icmp_le 174 135 dL_drops_132 (by decide) rfl (by first | exact TR.rng hT _ _ _ | exact R31_of _ | exact bi_R _ | assumption | (constructor <;> omega)) (by first | exact TR.rng hT _ _ _ | exact R31_of _ | exact bi_R _ | assumption | (constructor <;> omega)) (fun c132 => ?_) (fun c132 => ?_)
                        · skip
                          refine ev_ild8 176 dL_drops_174 rfl ?_
                          exact lz_ret (p := true) (by first | rfl | omega | exact bi_dt (by omega) | exact bi_df (by omega) | (rfl)) hT (by exact ⟨rfl, rfl, hI2⟩) rfl dL_drops_176
                        · skip
                          refine ev_ild8 137 dL_drops_135 rfl ?_
                          refine tj_if_eq 165 140 dL_drops_137 (by decide) rfl (by first | exact TR.rng hT _ _ _ | exact R31_of _ | exact bi_R _ | assumption | (constructor <;> omega)) (fun c137 => ?_) (fun c137 => ?_)
                          · exact False.elim (by omega)
                          · skip
                            refine ev_ald0 141 dL_drops_140 rfl ?_
                            refine ev_ild2 142 dL_drops_141 rfl ?_
                            refine ev_ild9 144 dL_drops_142 rfl ?_
                            refine tc_V2 147 13 dL_drops_144 lkv_L_154 (tr0 hT) rfl rfl (by first | decide | omega) (Nat.le_of_ble_eq_true rfl) (c_X11_isEnrolled_ok hT hW (by omega) (by omega)) ?_
                            refine tb_if_eq 161 150 dL_drops_147 (by decide) rfl (fun c147 => ?_) (fun c147 => ?_)
                            · skip
                              refine tj_iconst 162 dL_drops_161 rfl ?_
                              refine ev_goto 166 dL_drops_162 (by decide) ?_
                              refine ev_ist8 168 dL_drops_166 rfl (by decide) rfl ?_
                              refine tj_inc9 171 dL_drops_168 rfl (by decide) rfl ?_
                              refine ev_goto 118 dL_drops_171 (by decide) ?_
                              exact ev_mono (by omega) (by omega) (ih118 (k + 1) (q7) _ (by omega) (by first | omega | assumption | omega) (by first | rfl | omega | (omega)))
                            · skip
                              refine ev_ald1 151 dL_drops_150 rfl ?_
                              refine ev_ald0 152 dL_drops_151 rfl ?_
                              refine ev_ild2 153 dL_drops_152 rfl ?_
                              refine ev_ild9 155 dL_drops_153 rfl ?_
                              refine tp_V (729 * (5 - (k + 1))) (4374 * (5 - (k + 1))) 158 14 dL_drops_155 lkv_L_161 (tr40 hT) rfl (c_X12_may hT hW hO hTL (by omega) (by omega)) (by first | decide | omega) rfl rfl (Nat.le_of_ble_eq_true rfl) rfl (by omega) (by omega) ?_
                              refine tb_if_eq 165 161 dL_drops_158 (by decide) rfl (fun c158 => ?_) (fun c158 => ?_)
                              · exact False.elim (by rw [hmet (by omega) k (by omega) c147] at c158; cases c158)
                              · skip
                                refine tj_iconst 162 dL_drops_161 rfl ?_
                                refine ev_goto 166 dL_drops_162 (by decide) ?_
                                refine ev_ist8 168 dL_drops_166 rfl (by decide) rfl ?_
                                refine tj_inc9 171 dL_drops_168 rfl (by decide) rfl ?_
                                refine ev_goto 118 dL_drops_171 (by decide) ?_
                                exact ev_mono (by omega) (by omega) (ih118 (k + 1) (q7) _ (by omega) (by first | omega | assumption | omega) (by first | rfl | omega | (omega)))
                exact ev_mono (by omega) (by omega) (lp118 _ (0) (_) _ (Nat.lt_succ_self _) (by first | omega | assumption | omega) (by first | rfl | omega | (omega)))
        · skip
          refine tj_bipush 71 dL_drops_69 (by decide) rfl ?_
          refine ev_goto 81 dL_drops_71 (by decide) ?_
          refine tj_icmp_ne 112 84 dL_drops_81 (by decide) rfl (by first | exact TR.rng hT _ _ _ | exact R31_of _ | exact bi_R _ | assumption | (constructor <;> omega)) (by first | exact TR.rng hT _ _ _ | exact R31_of _ | exact bi_R _ | assumption | (constructor <;> omega)) (fun c81 => ?_) (fun c81 => ?_)
          · exact False.elim (by split at hG <;> omega)
          · skip
            refine ev_ald0 85 dL_drops_84 rfl ?_
            refine ev_ild2 86 dL_drops_85 rfl ?_
            refine ev_ild3 87 dL_drops_86 rfl ?_
            refine tc_V2 90 13 dL_drops_87 lkv_L_166 (tr0 hT) rfl rfl (by first | decide | omega) (Nat.le_of_ble_eq_true rfl) (c_X11_attempts_ok hT hW (by omega) (by omega)) ?_
            refine ev_ild5 92 dL_drops_90 rfl ?_
            refine ev_ild7 94 dL_drops_92 rfl ?_
            refine tj_bipush 96 dL_drops_94 (by decide) rfl ?_
            refine tj_icmp_ne 103 99 dL_drops_96 (by decide) rfl (by first | exact TR.rng hT _ _ _ | exact R31_of _ | exact bi_R _ | assumption | (constructor <;> omega)) (by first | exact TR.rng hT _ _ _ | exact R31_of _ | exact bi_R _ | assumption | (constructor <;> omega)) (fun c96 => ?_) (fun c96 => ?_)
            · skip
              refine tj_iconst 104 dL_drops_103 rfl ?_
              refine tj_iadd 105 dL_drops_104 rfl ?_
              refine tj_icmp_ne 112 108 dL_drops_105 (by decide) rfl (by first | exact TR.rng hT _ _ _ | exact R31_of _ | exact bi_R _ | assumption | (constructor <;> omega)) (by first | exact TR.rng hT _ _ _ | exact R31_of _ | exact bi_R _ | assumption | (constructor <;> omega)) (fun c105 => ?_) (fun c105 => ?_)
              · exact False.elim (by split at hG <;> omega)
              · skip
                refine tj_iconst 109 dL_drops_108 rfl ?_
                refine ev_goto 113 dL_drops_109 (by decide) ?_
                refine ev_ist8 115 dL_drops_113 rfl (by decide) rfl ?_
                refine tj_iconst 116 dL_drops_115 rfl ?_
                refine ev_ist9 118 dL_drops_116 rfl (by decide) rfl ?_
                have lp118 : ∀ (n118 : Nat) (k : Nat) (q7 : Int) (z9 : Int) , 6 - k < n118 → (k ≤ 5) → z9 = (k : Int) → Ev g M_L_drops 47 118 [some (.ref (α 0 0)), some (.ref (α 40 0)), some (.int (J (s : Int))), some (.int (J (c : Int))), some (.int (J (bi (tak X s c)))), some (.int (J (X 9 s c))), some (.int (J (X 0 0 5))), some (.int (J q7)), some (.int (J 1)), some (.int (J z9))] [] h (729 * (5 - k)) (4374 * (5 - k)) (AQ g (some (.int (J (bi true)))) ((fun α' ν' X' => α' 0 0 = α 0 0 ∧ α' 40 0 = α 40 0 ∧ INV e ν' X'))) := by
                  intro n118
                  induction n118 with
                  | zero => intro k q7 z9 hm; exact absurd hm (Nat.not_lt_zero _)
                  | succ n118 ih118 =>
                    intro k q7 z9 hm118  hk e9
                    subst e9
                    refine ev_ild9 120 dL_drops_118 rfl ?_
                    refine tj_iconst 121 dL_drops_120 rfl ?_
                    refine tj_icmp_ge 174 124 dL_drops_121 (by decide) rfl (by first | exact TR.rng hT _ _ _ | exact R31_of _ | exact bi_R _ | assumption | (constructor <;> omega)) (by first | exact TR.rng hT _ _ _ | exact R31_of _ | exact bi_R _ | assumption | (constructor <;> omega)) (fun c121 => ?_) (fun c121 => ?_)
                    · skip
                      refine ev_ild8 176 dL_drops_174 rfl ?_
                      exact lz_ret (p := true) (by first | rfl | omega | exact bi_dt (by omega) | exact bi_df (by omega) | (rfl)) hT (by exact ⟨rfl, rfl, hI2⟩) rfl dL_drops_176
                    · skip
                      refine ev_ild4 126 dL_drops_124 rfl ?_
                      refine tb_if_eq 174 129 dL_drops_126 (by decide) rfl (fun c126 => ?_) (fun c126 => ?_)
                      · exact False.elim (by rw [c10] at c126; cases c126)
                      · skip
                        refine ev_ild6 131 dL_drops_129 rfl ?_
                        refine tj_iconst 132 dL_drops_131 rfl ?_
                        refine tj_icmp_le 174 135 dL_drops_132 (by decide) rfl (by first | exact TR.rng hT _ _ _ | exact R31_of _ | exact bi_R _ | assumption | (constructor <;> omega)) (by first | exact TR.rng hT _ _ _ | exact R31_of _ | exact bi_R _ | assumption | (constructor <;> omega)) (fun c132 => ?_) (fun c132 => ?_)
                        · skip
                          refine ev_ild8 176 dL_drops_174 rfl ?_
                          exact lz_ret (p := true) (by first | rfl | omega | exact bi_dt (by omega) | exact bi_df (by omega) | (rfl)) hT (by exact ⟨rfl, rfl, hI2⟩) rfl dL_drops_176
                        · skip
                          refine ev_ild8 137 dL_drops_135 rfl ?_
                          refine tj_if_eq 165 140 dL_drops_137 (by decide) rfl (by first | exact TR.rng hT _ _ _ | exact R31_of _ | exact bi_R _ | assumption | (constructor <;> omega)) (fun c137 => ?_) (fun c137 => ?_)
                          · exact False.elim (by omega)
                          · skip
                            refine ev_ald0 141 dL_drops_140 rfl ?_
                            refine ev_ild2 142 dL_drops_141 rfl ?_
                            refine ev_ild9 144 dL_drops_142 rfl ?_
                            refine tc_V2 147 13 dL_drops_144 lkv_L_154 (tr0 hT) rfl rfl (by first | decide | omega) (Nat.le_of_ble_eq_true rfl) (c_X11_isEnrolled_ok hT hW (by omega) (by omega)) ?_
                            refine tb_if_eq 161 150 dL_drops_147 (by decide) rfl (fun c147 => ?_) (fun c147 => ?_)
                            · skip
                              refine tj_iconst 162 dL_drops_161 rfl ?_
                              refine ev_goto 166 dL_drops_162 (by decide) ?_
                              refine ev_ist8 168 dL_drops_166 rfl (by decide) rfl ?_
                              refine tj_inc9 171 dL_drops_168 rfl (by decide) rfl ?_
                              refine ev_goto 118 dL_drops_171 (by decide) ?_
                              exact ev_mono (by omega) (by omega) (ih118 (k + 1) (q7) _ (by omega) (by first | omega | assumption | omega) (by first | rfl | omega | (omega)))
                            · skip
                              refine ev_ald1 151 dL_drops_150 rfl ?_
                              refine ev_ald0 152 dL_drops_151 rfl ?_
                              refine ev_ild2 153 dL_drops_152 rfl ?_
                              refine ev_ild9 155 dL_drops_153 rfl ?_
                              refine tp_V (729 * (5 - (k + 1))) (4374 * (5 - (k + 1))) 158 14 dL_drops_155 lkv_L_161 (tr40 hT) rfl (c_X12_may hT hW hO hTL (by omega) (by omega)) (by first | decide | omega) rfl rfl (Nat.le_of_ble_eq_true rfl) rfl (by omega) (by omega) ?_
                              refine tb_if_eq 165 161 dL_drops_158 (by decide) rfl (fun c158 => ?_) (fun c158 => ?_)
                              · exact False.elim (by rw [hmet (by omega) k (by omega) c147] at c158; cases c158)
                              · skip
                                refine tj_iconst 162 dL_drops_161 rfl ?_
                                refine ev_goto 166 dL_drops_162 (by decide) ?_
                                refine ev_ist8 168 dL_drops_166 rfl (by decide) rfl ?_
                                refine tj_inc9 171 dL_drops_168 rfl (by decide) rfl ?_
                                refine ev_goto 118 dL_drops_171 (by decide) ?_
                                exact ev_mono (by omega) (by omega) (ih118 (k + 1) (q7) _ (by omega) (by first | omega | assumption | omega) (by first | rfl | omega | (omega)))
                exact ev_mono (by omega) (by omega) (lp118 _ (0) (_) _ (Nat.lt_succ_self _) (by first | omega | assumption | omega) (by first | rfl | omega | (omega)))
            · skip
              refine tj_iconst 100 dL_drops_99 rfl ?_
              refine ev_goto 104 dL_drops_100 (by decide) ?_
              refine tj_iadd 105 dL_drops_104 rfl ?_
              refine tj_icmp_ne 112 108 dL_drops_105 (by decide) rfl (by first | exact TR.rng hT _ _ _ | exact R31_of _ | exact bi_R _ | assumption | (constructor <;> omega)) (by first | exact TR.rng hT _ _ _ | exact R31_of _ | exact bi_R _ | assumption | (constructor <;> omega)) (fun c105 => ?_) (fun c105 => ?_)
              · exact False.elim (by split at hG <;> omega)
              · skip
                refine tj_iconst 109 dL_drops_108 rfl ?_
                refine ev_goto 113 dL_drops_109 (by decide) ?_
                refine ev_ist8 115 dL_drops_113 rfl (by decide) rfl ?_
                refine tj_iconst 116 dL_drops_115 rfl ?_
                refine ev_ist9 118 dL_drops_116 rfl (by decide) rfl ?_
                have lp118 : ∀ (n118 : Nat) (k : Nat) (q7 : Int) (z9 : Int) , 6 - k < n118 → (k ≤ 5) → z9 = (k : Int) → Ev g M_L_drops 47 118 [some (.ref (α 0 0)), some (.ref (α 40 0)), some (.int (J (s : Int))), some (.int (J (c : Int))), some (.int (J (bi (tak X s c)))), some (.int (J (X 9 s c))), some (.int (J (X 0 0 5))), some (.int (J q7)), some (.int (J 1)), some (.int (J z9))] [] h (729 * (5 - k)) (4374 * (5 - k)) (AQ g (some (.int (J (bi true)))) ((fun α' ν' X' => α' 0 0 = α 0 0 ∧ α' 40 0 = α 40 0 ∧ INV e ν' X'))) := by
                  intro n118
                  induction n118 with
                  | zero => intro k q7 z9 hm; exact absurd hm (Nat.not_lt_zero _)
                  | succ n118 ih118 =>
                    intro k q7 z9 hm118  hk e9
                    subst e9
                    refine ev_ild9 120 dL_drops_118 rfl ?_
                    refine tj_iconst 121 dL_drops_120 rfl ?_
                    refine tj_icmp_ge 174 124 dL_drops_121 (by decide) rfl (by first | exact TR.rng hT _ _ _ | exact R31_of _ | exact bi_R _ | assumption | (constructor <;> omega)) (by first | exact TR.rng hT _ _ _ | exact R31_of _ | exact bi_R _ | assumption | (constructor <;> omega)) (fun c121 => ?_) (fun c121 => ?_)
                    · skip
                      refine ev_ild8 176 dL_drops_174 rfl ?_
                      exact lz_ret (p := true) (by first | rfl | omega | exact bi_dt (by omega) | exact bi_df (by omega) | (rfl)) hT (by exact ⟨rfl, rfl, hI2⟩) rfl dL_drops_176
                    · skip
                      refine ev_ild4 126 dL_drops_124 rfl ?_
                      refine tb_if_eq 174 129 dL_drops_126 (by decide) rfl (fun c126 => ?_) (fun c126 => ?_)
                      · exact False.elim (by rw [c10] at c126; cases c126)
                      · skip
                        refine ev_ild6 131 dL_drops_129 rfl ?_
                        refine tj_iconst 132 dL_drops_131 rfl ?_
                        refine tj_icmp_le 174 135 dL_drops_132 (by decide) rfl (by first | exact TR.rng hT _ _ _ | exact R31_of _ | exact bi_R _ | assumption | (constructor <;> omega)) (by first | exact TR.rng hT _ _ _ | exact R31_of _ | exact bi_R _ | assumption | (constructor <;> omega)) (fun c132 => ?_) (fun c132 => ?_)
                        · skip
                          refine ev_ild8 176 dL_drops_174 rfl ?_
                          exact lz_ret (p := true) (by first | rfl | omega | exact bi_dt (by omega) | exact bi_df (by omega) | (rfl)) hT (by exact ⟨rfl, rfl, hI2⟩) rfl dL_drops_176
                        · skip
                          refine ev_ild8 137 dL_drops_135 rfl ?_
                          refine tj_if_eq 165 140 dL_drops_137 (by decide) rfl (by first | exact TR.rng hT _ _ _ | exact R31_of _ | exact bi_R _ | assumption | (constructor <;> omega)) (fun c137 => ?_) (fun c137 => ?_)
                          · exact False.elim (by omega)
                          · skip
                            refine ev_ald0 141 dL_drops_140 rfl ?_
                            refine ev_ild2 142 dL_drops_141 rfl ?_
                            refine ev_ild9 144 dL_drops_142 rfl ?_
                            refine tc_V2 147 13 dL_drops_144 lkv_L_154 (tr0 hT) rfl rfl (by first | decide | omega) (Nat.le_of_ble_eq_true rfl) (c_X11_isEnrolled_ok hT hW (by omega) (by omega)) ?_
                            refine tb_if_eq 161 150 dL_drops_147 (by decide) rfl (fun c147 => ?_) (fun c147 => ?_)
                            · skip
                              refine tj_iconst 162 dL_drops_161 rfl ?_
                              refine ev_goto 166 dL_drops_162 (by decide) ?_
                              refine ev_ist8 168 dL_drops_166 rfl (by decide) rfl ?_
                              refine tj_inc9 171 dL_drops_168 rfl (by decide) rfl ?_
                              refine ev_goto 118 dL_drops_171 (by decide) ?_
                              exact ev_mono (by omega) (by omega) (ih118 (k + 1) (q7) _ (by omega) (by first | omega | assumption | omega) (by first | rfl | omega | (omega)))
                            · skip
                              refine ev_ald1 151 dL_drops_150 rfl ?_
                              refine ev_ald0 152 dL_drops_151 rfl ?_
                              refine ev_ild2 153 dL_drops_152 rfl ?_
                              refine ev_ild9 155 dL_drops_153 rfl ?_
                              refine tp_V (729 * (5 - (k + 1))) (4374 * (5 - (k + 1))) 158 14 dL_drops_155 lkv_L_161 (tr40 hT) rfl (c_X12_may hT hW hO hTL (by omega) (by omega)) (by first | decide | omega) rfl rfl (Nat.le_of_ble_eq_true rfl) rfl (by omega) (by omega) ?_
                              refine tb_if_eq 165 161 dL_drops_158 (by decide) rfl (fun c158 => ?_) (fun c158 => ?_)
                              · exact False.elim (by rw [hmet (by omega) k (by omega) c147] at c158; cases c158)
                              · skip
                                refine tj_iconst 162 dL_drops_161 rfl ?_
                                refine ev_goto 166 dL_drops_162 (by decide) ?_
                                refine ev_ist8 168 dL_drops_166 rfl (by decide) rfl ?_
                                refine tj_inc9 171 dL_drops_168 rfl (by decide) rfl ?_
                                refine ev_goto 118 dL_drops_171 (by decide) ?_
                                exact ev_mono (by omega) (by omega) (ih118 (k + 1) (q7) _ (by omega) (by first | omega | assumption | omega) (by first | rfl | omega | (omega)))
                exact ev_mono (by omega) (by omega) (lp118 _ (0) (_) _ (Nat.lt_succ_self _) (by first | omega | assumption | omega) (by first | rfl | omega | (omega)))
    · skip
      refine tj_iconst 32 dL_drops_31 rfl ?_
      exact lz_ret (p := true) (by first | rfl | omega | exact bi_dt (by omega) | exact bi_df (by omega) | (rfl)) hT (by exact ⟨rfl, rfl, hI⟩) rfl dL_drops_32
  · skip
    refine ev_ald0 14 dL_drops_13 rfl ?_
    refine ev_ild2 15 dL_drops_14 rfl ?_
    refine ev_ild3 16 dL_drops_15 rfl ?_
    refine tp_SH (3645) (21870) 19 dL_drops_16 lh_L_151 (c_L_place hT hW hO (by omega) (by omega)) (by first | decide | omega) rfl rfl (Nat.le_of_ble_eq_true rfl) rfl (by omega) (by omega) ?_
    refine tj_if_lt 31 22 dL_drops_19 (by decide) rfl (by first | exact TR.rng hT _ _ _ | exact R31_of _ | exact bi_R _ | assumption | (constructor <;> omega)) (fun c19 => ?_) (fun c19 => ?_)
    · skip
      refine tj_iconst 32 dL_drops_31 rfl ?_
      exact lz_ret (p := true) (by first | rfl | omega | exact bi_dt (by omega) | exact bi_df (by omega) | (rfl)) hT (by exact ⟨rfl, rfl, hI⟩) rfl dL_drops_32
    · skip
      refine ev_ald0 23 dL_drops_22 rfl ?_
      refine tc_V0 26 13 dL_drops_23 lkv_L_157 (tr0 hT) rfl rfl (by first | decide | omega) (Nat.le_of_ble_eq_true rfl) (c_X11_day_ok hT hW) ?_
      refine tj_bipush 28 dL_drops_26 (by decide) rfl ?_
      refine tj_icmp_le 33 31 dL_drops_28 (by decide) rfl (by first | exact TR.rng hT _ _ _ | exact R31_of _ | exact bi_R _ | assumption | (constructor <;> omega)) (by first | exact TR.rng hT _ _ _ | exact R31_of _ | exact bi_R _ | assumption | (constructor <;> omega)) (fun c28 => ?_) (fun c28 => ?_)
      · skip
        refine ev_ald0 34 dL_drops_33 rfl ?_
        refine ev_ild2 35 dL_drops_34 rfl ?_
        refine ev_ild3 36 dL_drops_35 rfl ?_
        refine tc_V2 39 13 dL_drops_36 lkv_L_166 (tr0 hT) rfl rfl (by first | decide | omega) (Nat.le_of_ble_eq_true rfl) (c_X11_attempts_ok hT hW (by omega) (by omega)) ?_
        refine ev_ist5 41 dL_drops_39 rfl (by decide) rfl ?_
        refine ev_ald0 42 dL_drops_41 rfl ?_
        refine tc_V0 45 13 dL_drops_42 lkv_L_157 (tr0 hT) rfl rfl (by first | decide | omega) (Nat.le_of_ble_eq_true rfl) (c_X11_day_ok hT hW) ?_
        refine ev_ist6 47 dL_drops_45 rfl (by decide) rfl ?_
        refine ev_ald0 48 dL_drops_47 rfl ?_
        refine ev_ild2 49 dL_drops_48 rfl ?_
        refine ev_ild3 50 dL_drops_49 rfl ?_
        refine tm_V2 53 13 dL_drops_50 lkv_L_169 (tr0 hT) rfl rfl (by first | decide | omega) (Nat.le_of_ble_eq_true rfl) (c_X11_drop_okw hT hW (by omega) (by omega) c10 (by omega) (by omega)) (fun h X2 hT hP50 => ?_)
        obtain ⟨hI2, h91⟩ := lv_in hI hc (by omega) hP50.1
        obtain ⟨⟨hW, hV, hS, hO, hTL, hM, he⟩, hN⟩ := id hI2
        obtain ⟨eC, eS, eF⟩ := id hO
        refine ev_ist7 55 dL_drops_53 rfl (by decide) rfl ?_
        refine ev_ild7 57 dL_drops_55 rfl ?_
        refine ev_ild4 59 dL_drops_57 rfl ?_
        refine tb_if_eq 79 62 dL_drops_59 (by decide) rfl (fun c59 => ?_) (fun c59 => ?_)
        · skip
          refine tj_bipush 81 dL_drops_79 (by decide) rfl ?_
          refine tj_icmp_ne 112 84 dL_drops_81 (by decide) rfl (by first | exact TR.rng hT _ _ _ | exact R31_of _ | exact bi_R _ | assumption | (constructor <;> omega)) (by first | exact TR.rng hT _ _ _ | exact R31_of _ | exact bi_R _ | assumption | (constructor <;> omega)) (fun c81 => ?_) (fun c81 => ?_)
          · exact False.elim (by omega)
          · skip
            refine ev_ald0 85 dL_drops_84 rfl ?_
            refine ev_ild2 86 dL_drops_85 rfl ?_
            refine ev_ild3 87 dL_drops_86 rfl ?_
            refine tc_V2 90 13 dL_drops_87 lkv_L_166 (tr0 hT) rfl rfl (by first | decide | omega) (Nat.le_of_ble_eq_true rfl) (c_X11_attempts_ok hT hW (by omega) (by omega)) ?_
            refine ev_ild5 92 dL_drops_90 rfl ?_
            refine ev_ild7 94 dL_drops_92 rfl ?_
            refine tj_bipush 96 dL_drops_94 (by decide) rfl ?_
            refine tj_icmp_ne 103 99 dL_drops_96 (by decide) rfl (by first | exact TR.rng hT _ _ _ | exact R31_of _ | exact bi_R _ | assumption | (constructor <;> omega)) (by first | exact TR.rng hT _ _ _ | exact R31_of _ | exact bi_R _ | assumption | (constructor <;> omega)) (fun c96 => ?_) (fun c96 => ?_)
            · skip
              refine tj_iconst 104 dL_drops_103 rfl ?_
              refine tj_iadd 105 dL_drops_104 rfl ?_
              refine tj_icmp_ne 112 108 dL_drops_105 (by decide) rfl (by first | exact TR.rng hT _ _ _ | exact R31_of _ | exact bi_R _ | assumption | (constructor <;> omega)) (by first | exact TR.rng hT _ _ _ | exact R31_of _ | exact bi_R _ | assumption | (constructor <;> omega)) (fun c105 => ?_) (fun c105 => ?_)
              · exact False.elim (by omega)
              · skip
                refine tj_iconst 109 dL_drops_108 rfl ?_
                refine ev_goto 113 dL_drops_109 (by decide) ?_
                refine ev_ist8 115 dL_drops_113 rfl (by decide) rfl ?_
                refine tj_iconst 116 dL_drops_115 rfl ?_
                refine ev_ist9 118 dL_drops_116 rfl (by decide) rfl ?_
                have lp118 : ∀ (n118 : Nat) (k : Nat) (q7 : Int) (z9 : Int) , 6 - k < n118 → (k ≤ 5) → z9 = (k : Int) → Ev g M_L_drops 47 118 [some (.ref (α 0 0)), some (.ref (α 40 0)), some (.int (J (s : Int))), some (.int (J (c : Int))), some (.int (J (bi (tak X s c)))), some (.int (J (X 9 s c))), some (.int (J (X 0 0 5))), some (.int (J q7)), some (.int (J 1)), some (.int (J z9))] [] h (729 * (5 - k)) (4374 * (5 - k)) (AQ g (some (.int (J (bi true)))) ((fun α' ν' X' => α' 0 0 = α 0 0 ∧ α' 40 0 = α 40 0 ∧ INV e ν' X'))) := by
                  intro n118
                  induction n118 with
                  | zero => intro k q7 z9 hm; exact absurd hm (Nat.not_lt_zero _)
                  | succ n118 ih118 =>
                    intro k q7 z9 hm118  hk e9
                    subst e9
                    refine ev_ild9 120 dL_drops_118 rfl ?_
                    refine tj_iconst 121 dL_drops_120 rfl ?_
                    refine tj_icmp_ge 174 124 dL_drops_121 (by decide) rfl (by first | exact TR.rng hT _ _ _ | exact R31_of _ | exact bi_R _ | assumption | (constructor <;> omega)) (by first | exact TR.rng hT _ _ _ | exact R31_of _ | exact bi_R _ | assumption | (constructor <;> omega)) (fun c121 => ?_) (fun c121 => ?_)
                    · skip
                      refine ev_ild8 176 dL_drops_174 rfl ?_
                      exact lz_ret (p := true) (by first | rfl | omega | exact bi_dt (by omega) | exact bi_df (by omega) | (rfl)) hT (by exact ⟨rfl, rfl, hI2⟩) rfl dL_drops_176
                    · skip
                      refine ev_ild4 126 dL_drops_124 rfl ?_
                      refine tb_if_eq 174 129 dL_drops_126 (by decide) rfl (fun c126 => ?_) (fun c126 => ?_)
                      · skip
                        refine ev_ild8 176 dL_drops_174 rfl ?_
                        exact lz_ret (p := true) (by first | rfl | omega | exact bi_dt (by omega) | exact bi_df (by omega) | (rfl)) hT (by exact ⟨rfl, rfl, hI2⟩) rfl dL_drops_176
                      · exact False.elim (by rw [c10] at c126; cases c126)
                exact ev_mono (by omega) (by omega) (lp118 _ (0) (_) _ (Nat.lt_succ_self _) (by first | omega | assumption | omega) (by first | rfl | omega | (omega)))
            · skip
              refine tj_iconst 100 dL_drops_99 rfl ?_
              refine ev_goto 104 dL_drops_100 (by decide) ?_
              refine tj_iadd 105 dL_drops_104 rfl ?_
              refine tj_icmp_ne 112 108 dL_drops_105 (by decide) rfl (by first | exact TR.rng hT _ _ _ | exact R31_of _ | exact bi_R _ | assumption | (constructor <;> omega)) (by first | exact TR.rng hT _ _ _ | exact R31_of _ | exact bi_R _ | assumption | (constructor <;> omega)) (fun c105 => ?_) (fun c105 => ?_)
              · exact False.elim (by omega)
              · skip
                refine tj_iconst 109 dL_drops_108 rfl ?_
                refine ev_goto 113 dL_drops_109 (by decide) ?_
                refine ev_ist8 115 dL_drops_113 rfl (by decide) rfl ?_
                refine tj_iconst 116 dL_drops_115 rfl ?_
                refine ev_ist9 118 dL_drops_116 rfl (by decide) rfl ?_
                have lp118 : ∀ (n118 : Nat) (k : Nat) (q7 : Int) (z9 : Int) , 6 - k < n118 → (k ≤ 5) → z9 = (k : Int) → Ev g M_L_drops 47 118 [some (.ref (α 0 0)), some (.ref (α 40 0)), some (.int (J (s : Int))), some (.int (J (c : Int))), some (.int (J (bi (tak X s c)))), some (.int (J (X 9 s c))), some (.int (J (X 0 0 5))), some (.int (J q7)), some (.int (J 1)), some (.int (J z9))] [] h (729 * (5 - k)) (4374 * (5 - k)) (AQ g (some (.int (J (bi true)))) ((fun α' ν' X' => α' 0 0 = α 0 0 ∧ α' 40 0 = α 40 0 ∧ INV e ν' X'))) := by
                  intro n118
                  induction n118 with
                  | zero => intro k q7 z9 hm; exact absurd hm (Nat.not_lt_zero _)
                  | succ n118 ih118 =>
                    intro k q7 z9 hm118  hk e9
                    subst e9
                    refine ev_ild9 120 dL_drops_118 rfl ?_
                    refine tj_iconst 121 dL_drops_120 rfl ?_
                    refine tj_icmp_ge 174 124 dL_drops_121 (by decide) rfl (by first | exact TR.rng hT _ _ _ | exact R31_of _ | exact bi_R _ | assumption | (constructor <;> omega)) (by first | exact TR.rng hT _ _ _ | exact R31_of _ | exact bi_R _ | assumption | (constructor <;> omega)) (fun c121 => ?_) (fun c121 => ?_)
                    · skip
                      refine ev_ild8 176 dL_drops_174 rfl ?_
                      exact lz_ret (p := true) (by first | rfl | omega | exact bi_dt (by omega) | exact bi_df (by omega) | (rfl)) hT (by exact ⟨rfl, rfl, hI2⟩) rfl dL_drops_176
                    · skip
                      refine ev_ild4 126 dL_drops_124 rfl ?_
                      refine tb_if_eq 174 129 dL_drops_126 (by decide) rfl (fun c126 => ?_) (fun c126 => ?_)
                      · skip
                        refine ev_ild8 176 dL_drops_174 rfl ?_
                        exact lz_ret (p := true) (by first | rfl | omega | exact bi_dt (by omega) | exact bi_df (by omega) | (rfl)) hT (by exact ⟨rfl, rfl, hI2⟩) rfl dL_drops_176
                      · exact False.elim (by rw [c10] at c126; cases c126)
                exact ev_mono (by omega) (by omega) (lp118 _ (0) (_) _ (Nat.lt_succ_self _) (by first | omega | assumption | omega) (by first | rfl | omega | (omega)))
        · exact False.elim (by rw [c10] at c59; cases c59)
      · skip
        refine tj_iconst 32 dL_drops_31 rfl ?_
        exact lz_ret (p := true) (by first | rfl | omega | exact bi_dt (by omega) | exact bi_df (by omega) | (rfl)) hT (by exact ⟨rfl, rfl, hI⟩) rfl dL_drops_32
theorem rsO_s (O : XM) (c m k : Nat) : rsO O c m (k + 1) = if k = m then rsO O c m k else rsO O c m k + O 13 c k := rfl
theorem rsO_4 (O : XM) (c : Nat) {m : Nat} (hm : m < 4) : rsO O c m 4 = O 13 c 0 + O 13 c 1 + O 13 c 2 + O 13 c 3 - O 13 c m := by
  rcases (show m = 0 ∨ m = 1 ∨ m = 2 ∨ m = 3 by omega) with rfl | rfl | rfl | rfl <;> simp [rsO] <;> omega
theorem rsO_k {O O2 : XM} (h : O2 13 = O 13) (c m : Nat) : ∀ k, rsO O2 c m k = rsO O c m k
  | 0 => rfl
  | k + 1 => by rw [rsO_s, rsO_s, rsO_k h c m k, h]
section CHG2
variable {e : Int} {ν : Nat → Nat → Bool} {X : XM}
theorem INV_rs {c m v : Nat} (hI : INV e ν X) (hc : c < 5) (hm : m < 4) (hv : (v : Int) ≤ X 12 c 2 - rsO X c m 4) (hW2 : WX ν (xs (xs X 48 0 (4 * c + m) v) 13 c m v)) : INV e ν (gv (xs (xs X 48 0 (4 * c + m) v) 13 c m v)) := by
  have hTL := hI.1.2.2.2.2.1
  refine INV_gv (PRE_Y hI.1 (by rw [xs_nk (by decide), xs_nk (by decide)]) (by rw [xs_nk (by decide), xs_nk (by decide)]) (by rw [xs_nk (by decide), xs_nk (by decide)]) (by rw [xs_nk (by decide), xs_nk (by decide)]) (by rw [xs_nk (by decide), xs_nk (by decide)]) (fun c => by rw [xs_nk (by decide), xs_nk (by decide)]; exact ⟨rfl, rfl⟩) hW2 ⟨fun c2 hc2 => ?_, TLS_k (by rw [xs_nk (by decide), xs_nk (by decide)]) (by rw [xs_nk (by decide), xs_nk (by decide)]) hTL.2.1, TLF_k (by rw [xs_nk (by decide), xs_nk (by decide)]) (by rw [xs_nk (by decide), xs_nk (by decide)]) (by rw [xs_nk (by decide), xs_nk (by decide)]) (by rw [xs_nk (by decide), xs_nk (by decide)]) (by rw [xs_nk (by decide), xs_nk (by decide)]) hTL.2.2⟩)
  obtain ⟨t1, t2, t3, t4, t5⟩ := hTL.1 c2 hc2
  have k45 : xs (xs X 48 0 (4 * c + m) v) 13 c m v 45 = X 45 := by rw [xs_nk (by decide), xs_nk (by decide)]
  have k46 : xs (xs X 48 0 (4 * c + m) v) 13 c m v 46 = X 46 := by rw [xs_nk (by decide), xs_nk (by decide)]
  have k47 : xs (xs X 48 0 (4 * c + m) v) 13 c m v 47 = X 47 := by rw [xs_nk (by decide), xs_nk (by decide)]
  have k12 : xs (xs X 48 0 (4 * c + m) v) 13 c m v 12 = X 12 := by rw [xs_nk (by decide), xs_nk (by decide)]
  have k13 : ∀ c2 m2, xs (xs X 48 0 (4 * c + m) v) 13 c m v 13 c2 m2 = if c2 = c ∧ m2 = m then (v : Int) else X 13 c2 m2 := fun c2 m2 => by
    rw [xs_all, xs_nk (show (13 : Nat) ≠ 48 by decide)]
    by_cases q : c2 = c ∧ m2 = m
    · rw [if_pos ⟨rfl, q⟩, if_pos q]
    · rw [if_neg (fun z => q z.2), if_neg q]
  rw [k45, k46, k47, k12]
  refine ⟨t1, t2, t3, fun m2 hm2 => ?_, ?_⟩
  · rw [k13, xs_nk (by decide), xs_all]
    by_cases q : c2 = c ∧ m2 = m
    · rw [if_pos q, if_pos ⟨rfl, rfl, by rw [q.1, q.2]⟩]
    · rw [if_neg q, if_neg (fun z => q (by have := z.2.2; omega))]
      exact t4 m2 hm2
  · rw [k13, k13, k13, k13]
    by_cases q : c2 = c
    · subst q
      rw [rsO_4 X c2 hm] at hv
      rcases (show m = 0 ∨ m = 1 ∨ m = 2 ∨ m = 3 by omega) with rfl | rfl | rfl | rfl <;> simp <;> omega
    · rw [if_neg (fun z => q z.1), if_neg (fun z => q z.1), if_neg (fun z => q z.1), if_neg (fun z => q z.1)]
      exact t5
theorem INV_rq {c : Nat} {v : Int} (hI : INV e ν X) (hW2 : WX ν (xs (xs X 45 0 c v) 12 c 5 v)) : INV e ν (gv (xs (xs X 45 0 c v) 12 c 5 v)) := by
  have hTL := hI.1.2.2.2.2.1
  have k12 : ∀ c2 j, xs (xs X 45 0 c v) 12 c 5 v 12 c2 j = if c2 = c ∧ j = 5 then v else X 12 c2 j := fun c2 j => by
    rw [xs_all, xs_nk (show (12 : Nat) ≠ 45 by decide)]
    by_cases q : c2 = c ∧ j = 5
    · rw [if_pos ⟨rfl, q⟩, if_pos q]
    · rw [if_neg (fun z => q z.2), if_neg q]
  refine INV_gv (PRE_Y hI.1 (by rw [xs_nk (by decide), xs_nk (by decide)]) (by rw [xs_nk (by decide), xs_nk (by decide)]) (by rw [xs_nk (by decide), xs_nk (by decide)]) (by rw [xs_nk (by decide), xs_nk (by decide)]) (by rw [xs_nk (by decide), xs_nk (by decide)]) (fun c => by rw [k12, k12, if_neg (by omega), if_neg (by omega)]; exact ⟨rfl, rfl⟩) hW2 ⟨fun c2 hc2 => ?_, TLS_k (by rw [xs_nk (by decide), xs_nk (by decide)]) (by rw [xs_nk (by decide), xs_nk (by decide)]) hTL.2.1, TLF_k (by rw [xs_nk (by decide), xs_nk (by decide)]) (by rw [xs_nk (by decide), xs_nk (by decide)]) (by rw [xs_nk (by decide), xs_nk (by decide)]) (by rw [xs_nk (by decide), xs_nk (by decide)]) (by rw [xs_nk (by decide), xs_nk (by decide)]) hTL.2.2⟩)
  obtain ⟨t1, t2, t3, t4, t5⟩ := hTL.1 c2 hc2
  have k46 : xs (xs X 45 0 c v) 12 c 5 v 46 = X 46 := by rw [xs_nk (by decide), xs_nk (by decide)]
  have k47 : xs (xs X 45 0 c v) 12 c 5 v 47 = X 47 := by rw [xs_nk (by decide), xs_nk (by decide)]
  have k48 : xs (xs X 45 0 c v) 12 c 5 v 48 = X 48 := by rw [xs_nk (by decide), xs_nk (by decide)]
  have k13 : xs (xs X 45 0 c v) 12 c 5 v 13 = X 13 := by rw [xs_nk (by decide), xs_nk (by decide)]
  rw [k46, k47, k48, k13, k12, k12, k12, if_neg (show ¬ (c2 = c ∧ (1 : Nat) = 5) by omega), if_neg (show ¬ (c2 = c ∧ (2 : Nat) = 5) by omega)]
  refine ⟨?_, t2, t3, t4, t5⟩
  rw [xs_nk (show (45 : Nat) ≠ 12 by decide), xs_all]
  by_cases q : c2 = c
  · rw [if_pos ⟨rfl, rfl, q⟩, if_pos ⟨q, rfl⟩]
  · rw [if_neg (fun z => q z.2.2), if_neg (fun z => q z.1)]; exact t1
theorem INV_cm {c m : Nat} (hI : INV e ν X) (hW2 : WX ν (xs (xs X 49 0 c (m : Int)) 4 c 0 (m : Int))) : INV e ν (gv (xs (xs X 49 0 c (m : Int)) 4 c 0 (m : Int))) := by
  have hTL := hI.1.2.2.2.2.1
  refine INV_gv (PRE_Y hI.1 (by rw [xs_nk (by decide), xs_nk (by decide)]) (by rw [xs_nk (by decide), xs_nk (by decide)]) (by rw [xs_nk (by decide), xs_nk (by decide)]) (by rw [xs_nk (by decide), xs_nk (by decide)]) (by rw [xs_nk (by decide), xs_nk (by decide)]) (fun c => by rw [xs_nk (by decide), xs_nk (by decide)]; exact ⟨rfl, rfl⟩) hW2 ⟨TLC_k (by rw [xs_nk (by decide), xs_nk (by decide)]) (by rw [xs_nk (by decide), xs_nk (by decide)]) (by rw [xs_nk (by decide), xs_nk (by decide)]) (by rw [xs_nk (by decide), xs_nk (by decide)]) (by rw [xs_nk (by decide), xs_nk (by decide)]) (by rw [xs_nk (by decide), xs_nk (by decide)]) hTL.1, fun s hs => ?_, TLF_k (by rw [xs_nk (by decide), xs_nk (by decide)]) (by rw [xs_nk (by decide), xs_nk (by decide)]) (by rw [xs_nk (by decide), xs_nk (by decide)]) (by rw [xs_nk (by decide), xs_nk (by decide)]) (by rw [xs_nk (by decide), xs_nk (by decide)]) hTL.2.2⟩)
  have t1 := hTL.2.1 s hs
  rw [xs_nk (show (49 : Nat) ≠ 4 by decide), xs_all, xs_all, xs_nk (show (4 : Nat) ≠ 49 by decide)]
  by_cases q : s = c
  · rw [if_pos ⟨rfl, rfl, q⟩, if_pos ⟨rfl, q, rfl⟩]
  · rw [if_neg (fun z => q z.2.2), if_neg (fun z => q z.2.1)]; exact t1
end CHG2
set_option maxRecDepth 100000 in
set_option maxHeartbeats 4000000 in
theorem c_L_changes {g : Gt} {α : AL} {ν : Nat → Nat → Bool} {X : XM} {h : AH} {e : Int} (hT : TR g α ν X h) (hI : INV e ν X) {v : Int32}  : Al g M_L_changes 47 [.ref (α 0 0), .ref (α 40 0), .int v] h 3 18 (some (.int (J (bi true)))) ((fun α' ν' X' => α' 0 0 = α 0 0 ∧ α' 40 0 = α 40 0 ∧ INV e ν' X')) := by
  refine ct_of_ev rfl rfl (ls := [some (.ref (α 0 0)), some (.ref (α 40 0)), some (.int v), none, none, none, none, none]) rfl (Nat.le_of_ble_eq_true rfl) ?_
  show Ev g M_L_changes 47 0 [some (.ref (α 0 0)), some (.ref (α 40 0)), some (.int v), none, none, none, none, none] [] h 3 18 (AQ g (some (.int (J (bi true)))) ((fun α' ν' X' => α' 0 0 = α 0 0 ∧ α' 40 0 = α 40 0 ∧ INV e ν' X')))
  obtain ⟨⟨hW, hV, hS, hO, hTL, hM, he⟩, hN⟩ := id hI
  obtain ⟨eC, eS, eF⟩ := id hO
  refine ev_ild2 1 dL_changes_0 rfl ?_
  refine tj_iconst 2 dL_changes_1 rfl ?_
  refine ev_ishr 3 dL_changes_2 rfl ?_
  refine tj_iconst 4 dL_changes_3 rfl ?_
  refine ly_low (5) 7 dL_changes_4 lks_L_50 (by omega) (by omega) (by omega) rfl (by first | decide | omega) (Nat.le_of_ble_eq_true rfl) (fun r4 hr4 => ?_)
  refine ev_ist3 8 dL_changes_7 rfl (by decide) rfl ?_
  refine ev_ild2 9 dL_changes_8 rfl ?_
  refine tj_bipush 11 dL_changes_9 (by decide) rfl ?_
  refine ev_ishr 12 dL_changes_11 rfl ?_
  refine tj_iconst 13 dL_changes_12 rfl ?_
  refine ly_low (4) 16 dL_changes_13 lks_L_50 (by omega) (by omega) (by omega) rfl (by first | decide | omega) (Nat.le_of_ble_eq_true rfl) (fun r13 hr13 => ?_)
  refine ev_ist4 18 dL_changes_16 rfl (by decide) rfl ?_
  refine ev_ild2 19 dL_changes_18 rfl ?_
  refine tj_iconst 20 dL_changes_19 rfl ?_
  refine ly_low (5) 23 dL_changes_20 lks_L_50 (by omega) (by omega) (by omega) rfl (by first | decide | omega) (Nat.le_of_ble_eq_true rfl) (fun r20 hr20 => ?_)
  rcases (show (r20 : Int) = 0 ∨ (r20 : Int) = 1 ∨ (r20 : Int) = 2 ∨ (r20 : Int) = 3 ∨ (r20 : Int) = 4 by omega) with c23 | c23 | c23 | c23 | c23
  · skip
    have e47 := tl_47 hTL hr4
    have hsm := tl_sum hTL hr4
    have hse := wo_sea hW.1 r4 (by omega)
    have hre := fun m (hm : m < 4) => wo_res hW.1 r4 m (by omega) hm
    have hr0 := hre 0 (by omega)
    have hr1 := hre 1 (by omega)
    have hr2 := hre 2 (by omega)
    have hr3 := hre 3 (by omega)
    have hrm := hre r13 hr13
    have hr4s := rsO_4 X r4 hr13
    refine ev_tswIn 0 52 dL_changes_23 (by omega) rfl (by decide) (by first | exact TR.rng hT _ _ _ | exact R31_of _ | exact bi_R _ | assumption | (constructor <;> omega)) (by decide) ?_
    refine ev_ald1 53 dL_changes_52 rfl ?_
    refine ev_getfieldN 56 14 6 fln_L_53 (tr40 hT) rfl dL_changes_53 rfl ?_
    refine ev_ild3 57 dL_changes_56 rfl ?_
    refine tv_iald 58 (tr47 hT) (r4) (by omega) (by omega) (by omega) dL_changes_57 rfl ?_
    refine ev_ist5 60 dL_changes_58 rfl (by decide) rfl ?_
    refine tj_iconst 61 dL_changes_60 rfl ?_
    refine ev_ist6 63 dL_changes_61 rfl (by decide) rfl ?_
    have lp63 : ∀ (n63 : Nat) (k : Nat) (z5 : Int) (z6 : Int) (o7 : Option Value), 5 - k < n63 → (k ≤ 4) → (0 ≤ rsO X r4 r13 k ∧ rsO X r4 r13 k ≤ 12 * k) → z5 = X 12 r4 2 - rsO X r4 r13 k → z6 = (k : Int) → Ev g M_L_changes 47 63 [some (.ref (α 0 0)), some (.ref (α 40 0)), some (.int v), some (.int (J (r4 : Int))), some (.int (J (r13 : Int))), some (.int (J z5)), some (.int (J z6)), o7] [] h (3) (18) (AQ g (some (.int (J (bi true)))) ((fun α' ν' X' => α' 0 0 = α 0 0 ∧ α' 40 0 = α 40 0 ∧ INV e ν' X'))) := by
      intro n63
      induction n63 with
      | zero => intro k z5 z6 o7 hm; exact absurd hm (Nat.not_lt_zero _)
      | succ n63 ih63 =>
        intro k z5 z6 o7 hm63  hk hz e5 e6
        subst e5
        subst e6
        refine ev_ild6 65 dL_changes_63 rfl ?_
        refine tj_iconst 66 dL_changes_65 rfl ?_
        refine tj_icmp_ge 102 69 dL_changes_66 (by decide) rfl (by first | exact TR.rng hT _ _ _ | exact R31_of _ | exact bi_R _ | assumption | (constructor <;> omega)) (by first | exact TR.rng hT _ _ _ | exact R31_of _ | exact bi_R _ | assumption | (constructor <;> omega)) (fun c66 => ?_) (fun c66 => ?_)
        · skip
          obtain rfl : k = 4 := by omega
          refine ev_ild2 103 dL_changes_102 rfl ?_
          refine tj_bipush 105 dL_changes_103 (by decide) rfl ?_
          refine ev_ishr 106 dL_changes_105 rfl ?_
          refine ev_ild5 108 dL_changes_106 rfl ?_
          refine tj_iconst 109 dL_changes_108 rfl ?_
          refine tj_iadd 110 dL_changes_109 rfl ?_
          refine ly_low ((X 12 r4 2 - rsO X r4 r13 4 + 1).toNat) 113 dL_changes_110 lks_L_50 (by omega) (by omega) (by omega) rfl (by first | decide | omega) (Nat.le_of_ble_eq_true rfl) (fun r110 hr110 => ?_)
          refine ev_ist6 115 dL_changes_113 rfl (by decide) rfl ?_
          refine ev_ald1 116 dL_changes_115 rfl ?_
          refine ev_getfieldN 119 14 7 fln_L_182 (tr40 hT) rfl dL_changes_116 rfl ?_
          refine tj_iconst 120 dL_changes_119 rfl ?_
          refine ev_ild3 121 dL_changes_120 rfl ?_
          refine tj_imul 122 dL_changes_121 rfl ?_
          refine ev_ild4 124 dL_changes_122 rfl ?_
          refine tj_iadd 125 dL_changes_124 rfl ?_
          refine tv_iald 126 (tr48 hT) (((4 * r4) + r13)) (by omega) (by omega) (by omega) dL_changes_125 rfl ?_
          refine ev_ist7 128 dL_changes_126 rfl (by decide) rfl ?_
          refine ev_ald1 129 dL_changes_128 rfl ?_
          refine ev_getfieldN 132 14 7 fln_L_182 (tr40 hT) rfl dL_changes_129 rfl ?_
          refine tj_iconst 133 dL_changes_132 rfl ?_
          refine ev_ild3 134 dL_changes_133 rfl ?_
          refine tj_imul 135 dL_changes_134 rfl ?_
          refine ev_ild4 137 dL_changes_135 rfl ?_
          refine tj_iadd 138 dL_changes_137 rfl ?_
          refine ev_ild6 140 dL_changes_138 rfl ?_
          refine tv_iast 141 hT (tv48 hT) (fun _ => rfl) (((4 * r4) + r13)) (by omega) (by omega) (by omega) (by first | exact TR.rng hT _ _ _ | exact R31_of _ | exact bi_R _ | assumption | (constructor <;> omega)) dL_changes_140 rfl (fun h hT => ?_)
          obtain ⟨X1, hX1⟩ : ∃ Z, Z = xs X 48 0 (4 * r4 + r13) ((r110 : Int)) := ⟨_, rfl⟩
          rw [← hX1] at hT
          have hW1 : WX ν X1 := by rw [hX1]; exact wx_cg hW (fun kk hk => xs_nk (by omega))
          have eC1 : nC X1 = 5 := by rw [← eC, hX1]; unfold nC; rw [xs_nk (by decide)]
          have eS1 : nS X1 = 5 := by rw [← eS, hX1]; unfold nS; rw [xs_nk (by decide)]
          have eF1 : nF X1 = 12 := by rw [← eF, hX1]; unfold nF; rw [xs_nk (by decide)]
          have e12 : X1 12 = X 12 := by rw [hX1, xs_nk (by decide)]
          have e13 : X1 13 = X 13 := by rw [hX1, xs_nk (by decide)]
          have e4 : X1 4 = X 4 := by rw [hX1, xs_nk (by decide)]
          have erR : rsO X1 r4 r13 4 = rsO X r4 r13 4 := rsO_k e13 r4 r13 4
          refine ev_ald0 142 dL_changes_141 rfl ?_
          refine ev_ild3 143 dL_changes_142 rfl ?_
          refine ev_ild4 145 dL_changes_143 rfl ?_
          refine ev_ild6 147 dL_changes_145 rfl ?_
          refine tm_V3 150 13 dL_changes_147 lkv_L_185 (tr0 hT) rfl rfl (by first | decide | omega) (Nat.le_of_ble_eq_true rfl) (c_X11_reserve_ok hT hW1 (by omega) hr13 ⟨by omega, by omega⟩ (by omega) (by rw [e12, erR]; omega)) (fun h X2 hT hP => ?_)
          rw [e13]
          have e48 := tl_48 hTL hr4 hr13
          have hI2 : INV e ν X2 := by rw [hP.1, hX1]; exact INV_rs hI hr4 hr13 (by omega) (by rw [← hX1]; exact wx_rs hW1 (by omega))
          refine ev_ild7 152 dL_changes_150 rfl ?_
          refine tj_icmp_ne 159 155 dL_changes_152 (by decide) rfl (by first | exact TR.rng hT _ _ _ | exact R31_of _ | exact bi_R _ | assumption | (constructor <;> omega)) (by first | exact TR.rng hT _ _ _ | exact R31_of _ | exact bi_R _ | assumption | (constructor <;> omega)) (fun c152 => ?_) (fun c152 => ?_)
          · exact False.elim (by omega)
          · skip
            refine tj_iconst 156 dL_changes_155 rfl ?_
            refine ev_goto 160 dL_changes_156 (by decide) ?_
            exact lz_ret (p := true) (by first | rfl | omega | exact bi_dt (by omega) | exact bi_df (by omega) | (rfl)) hT (by exact ⟨rfl, rfl, hI2⟩) rfl dL_changes_160
        · skip
          refine ev_ild5 71 dL_changes_69 rfl ?_
          refine ev_ild6 73 dL_changes_71 rfl ?_
          refine ev_ild4 75 dL_changes_73 rfl ?_
          refine tj_icmp_ne 82 78 dL_changes_75 (by decide) rfl (by first | exact TR.rng hT _ _ _ | exact R31_of _ | exact bi_R _ | assumption | (constructor <;> omega)) (by first | exact TR.rng hT _ _ _ | exact R31_of _ | exact bi_R _ | assumption | (constructor <;> omega)) (fun c75 => ?_) (fun c75 => ?_)
          · skip
            refine ev_ald1 83 dL_changes_82 rfl ?_
            refine ev_getfieldN 86 14 7 fln_L_182 (tr40 hT) rfl dL_changes_83 rfl ?_
            refine tj_iconst 87 dL_changes_86 rfl ?_
            refine ev_ild3 88 dL_changes_87 rfl ?_
            refine tj_imul 89 dL_changes_88 rfl ?_
            refine ev_ild6 91 dL_changes_89 rfl ?_
            refine tj_iadd 92 dL_changes_91 rfl ?_
            refine tv_iald 93 (tr48 hT) (((4 * r4) + k)) (by omega) (by omega) (by omega) dL_changes_92 rfl ?_
            refine tj_isub 94 dL_changes_93 rfl ?_
            refine ev_ist5 96 dL_changes_94 rfl (by decide) rfl ?_
            refine tj_inc6 99 dL_changes_96 rfl (by decide) rfl ?_
            refine ev_goto 63 dL_changes_99 (by decide) ?_
            exact ev_mono (by omega) (by omega) (ih63 (k + 1) _ _ _ (by omega) (by first | omega | assumption | (rw [rsO_s]; have hq := hre k (by omega); split <;> omega) | (simp [rsO])) (by first | omega | assumption | (rw [rsO_s]; have hq := hre k (by omega); split <;> omega) | (simp [rsO])) (by first | rfl | omega | (first | (rw [e47]; simp [rsO]; done) | (rw [rsO_s, if_pos (by omega)]; omega) | (rw [rsO_s, if_neg (by omega), ← tl_48 hTL hr4 (by omega)]; omega))) (by first | rfl | omega | (first | (rw [e47]; simp [rsO]; done) | (rw [rsO_s, if_pos (by omega)]; omega) | (rw [rsO_s, if_neg (by omega), ← tl_48 hTL hr4 (by omega)]; omega))))
          · skip
            refine tj_iconst 79 dL_changes_78 rfl ?_
            refine ev_goto 93 dL_changes_79 (by decide) ?_
            refine tj_isub 94 dL_changes_93 rfl ?_
            refine ev_ist5 96 dL_changes_94 rfl (by decide) rfl ?_
            refine tj_inc6 99 dL_changes_96 rfl (by decide) rfl ?_
            refine ev_goto 63 dL_changes_99 (by decide) ?_
            exact ev_mono (by omega) (by omega) (ih63 (k + 1) _ _ _ (by omega) (by first | omega | assumption | (rw [rsO_s]; have hq := hre k (by omega); split <;> omega) | (simp [rsO])) (by first | omega | assumption | (rw [rsO_s]; have hq := hre k (by omega); split <;> omega) | (simp [rsO])) (by first | rfl | omega | (first | (rw [e47]; simp [rsO]; done) | (rw [rsO_s, if_pos (by omega)]; omega) | (rw [rsO_s, if_neg (by omega), ← tl_48 hTL hr4 (by omega)]; omega))) (by first | rfl | omega | (first | (rw [e47]; simp [rsO]; done) | (rw [rsO_s, if_pos (by omega)]; omega) | (rw [rsO_s, if_neg (by omega), ← tl_48 hTL hr4 (by omega)]; omega))))
    exact ev_mono (by omega) (by omega) (lp63 _ (0) _ _ _ (Nat.lt_succ_self _) (by first | omega | assumption | (rw [rsO_s]; have hq := hre k (by omega); split <;> omega) | (simp [rsO])) (by first | omega | assumption | (rw [rsO_s]; have hq := hre k (by omega); split <;> omega) | (simp [rsO])) (by first | rfl | omega | (first | (rw [e47]; simp [rsO]; done) | (rw [rsO_s, if_pos (by omega)]; omega) | (rw [rsO_s, if_neg (by omega), ← tl_48 hTL hr4 (by omega)]; omega))) (by first | rfl | omega | (first | (rw [e47]; simp [rsO]; done) | (rw [rsO_s, if_pos (by omega)]; omega) | (rw [rsO_s, if_neg (by omega), ← tl_48 hTL hr4 (by omega)]; omega))))
  · skip
    have e45 := tl_45 hTL hr4
    have hrq := wo_req hW.1 r4 (by omega)
    refine ev_tswIn 1 161 dL_changes_23 (by omega) rfl (by decide) (by first | exact TR.rng hT _ _ _ | exact R31_of _ | exact bi_R _ | assumption | (constructor <;> omega)) (by decide) ?_
    refine ev_ald1 162 dL_changes_161 rfl ?_
    refine ev_getfieldN 165 14 4 fln_L_188 (tr40 hT) rfl dL_changes_162 rfl ?_
    refine ev_ild3 166 dL_changes_165 rfl ?_
    refine tv_iald 167 (tr45 hT) (r4) (by omega) (by omega) (by omega) dL_changes_166 rfl ?_
    refine tj_if_lt 174 170 dL_changes_167 (by decide) rfl (by first | exact TR.rng hT _ _ _ | exact R31_of _ | exact bi_R _ | assumption | (constructor <;> omega)) (fun c167 => ?_) (fun c167 => ?_)
    · skip
      refine tj_iconst 175 dL_changes_174 rfl ?_
      refine ev_ist5 177 dL_changes_175 rfl (by decide) rfl ?_
      refine ev_ald1 178 dL_changes_177 rfl ?_
      refine ev_getfieldN 181 14 4 fln_L_188 (tr40 hT) rfl dL_changes_178 rfl ?_
      refine ev_ild3 182 dL_changes_181 rfl ?_
      refine ev_ild2 183 dL_changes_182 rfl ?_
      refine tj_bipush 185 dL_changes_183 (by decide) rfl ?_
      refine ev_ishr 186 dL_changes_185 rfl ?_
      refine tj_bipush 188 dL_changes_186 (by decide) rfl ?_
      refine ly_low (12) 191 dL_changes_188 lks_L_50 (by omega) (by omega) (by omega) rfl (by first | decide | omega) (Nat.le_of_ble_eq_true rfl) (fun r188 hr188 => ?_)
      refine tv_iast 192 hT (tv45 hT) (fun _ => rfl) (r4) (by omega) (by omega) (by omega) (by first | exact TR.rng hT _ _ _ | exact R31_of _ | exact bi_R _ | assumption | (constructor <;> omega)) dL_changes_191 rfl (fun h hT => ?_)
      obtain ⟨X1, hX1⟩ : ∃ Z, Z = xs X 45 0 (r4) ((r188 : Int)) := ⟨_, rfl⟩
      rw [← hX1] at hT
      have hW1 : WX ν X1 := by rw [hX1]; exact wx_cg hW (fun kk hk => xs_nk (by omega))
      have eC1 : nC X1 = 5 := by rw [← eC, hX1]; unfold nC; rw [xs_nk (by decide)]
      have eS1 : nS X1 = 5 := by rw [← eS, hX1]; unfold nS; rw [xs_nk (by decide)]
      have eF1 : nF X1 = 12 := by rw [← eF, hX1]; unfold nF; rw [xs_nk (by decide)]
      have e12 : X1 12 = X 12 := by rw [hX1, xs_nk (by decide)]
      have e13 : X1 13 = X 13 := by rw [hX1, xs_nk (by decide)]
      have e4 : X1 4 = X 4 := by rw [hX1, xs_nk (by decide)]
      have e45n : X1 45 0 r4 = (r188 : Int) := by rw [hX1, xs_all, if_pos ⟨rfl, rfl, rfl⟩]
      refine ev_ald0 193 dL_changes_192 rfl ?_
      refine ev_ild3 194 dL_changes_193 rfl ?_
      refine ev_ald1 195 dL_changes_194 rfl ?_
      refine ev_getfieldN 198 14 4 fln_L_188 (tr40 hT) rfl dL_changes_195 rfl ?_
      refine ev_ild3 199 dL_changes_198 rfl ?_
      refine tv_iald 200 (tr45 hT) (r4) (by omega) (by omega) (by omega) dL_changes_199 rfl ?_
      rw [e45n]
      refine tm_V2 203 13 dL_changes_200 lkv_L_191 (tr0 hT) rfl rfl (by first | decide | omega) (Nat.le_of_ble_eq_true rfl) (c_X11_require_ok hT hW1 (by omega) (f := r188) (by omega)) (fun h X2 hT hP => ?_)
      rw [e12]
      have hI2 : INV e ν X2 := by rw [hP.1, hX1]; exact INV_rq hI (by rw [← hX1]; exact wx_rq hW1 (by omega))
      refine ev_ild5 205 dL_changes_203 rfl ?_
      refine tj_icmp_ne 212 208 dL_changes_205 (by decide) rfl (by first | exact TR.rng hT _ _ _ | exact R31_of _ | exact bi_R _ | assumption | (constructor <;> omega)) (by first | exact TR.rng hT _ _ _ | exact R31_of _ | exact bi_R _ | assumption | (constructor <;> omega)) (fun c205 => ?_) (fun c205 => ?_)
      · exact False.elim (by rw [decide_eq_false (show ¬ X 12 r4 5 ≠ -1 by omega)] at c205; exact c205 rfl)
      · skip
        refine tj_iconst 209 dL_changes_208 rfl ?_
        refine ev_goto 213 dL_changes_209 (by decide) ?_
        exact lz_ret (p := true) (by first | rfl | omega | exact bi_dt (by omega) | exact bi_df (by omega) | (rfl)) hT (by exact ⟨rfl, rfl, hI2⟩) rfl dL_changes_213
    · skip
      refine tj_iconst 171 dL_changes_170 rfl ?_
      refine ev_goto 175 dL_changes_171 (by decide) ?_
      refine ev_ist5 177 dL_changes_175 rfl (by decide) rfl ?_
      refine ev_ald1 178 dL_changes_177 rfl ?_
      refine ev_getfieldN 181 14 4 fln_L_188 (tr40 hT) rfl dL_changes_178 rfl ?_
      refine ev_ild3 182 dL_changes_181 rfl ?_
      refine ev_ild2 183 dL_changes_182 rfl ?_
      refine tj_bipush 185 dL_changes_183 (by decide) rfl ?_
      refine ev_ishr 186 dL_changes_185 rfl ?_
      refine tj_bipush 188 dL_changes_186 (by decide) rfl ?_
      refine ly_low (12) 191 dL_changes_188 lks_L_50 (by omega) (by omega) (by omega) rfl (by first | decide | omega) (Nat.le_of_ble_eq_true rfl) (fun r188 hr188 => ?_)
      refine tv_iast 192 hT (tv45 hT) (fun _ => rfl) (r4) (by omega) (by omega) (by omega) (by first | exact TR.rng hT _ _ _ | exact R31_of _ | exact bi_R _ | assumption | (constructor <;> omega)) dL_changes_191 rfl (fun h hT => ?_)
      obtain ⟨X1, hX1⟩ : ∃ Z, Z = xs X 45 0 (r4) ((r188 : Int)) := ⟨_, rfl⟩
      rw [← hX1] at hT
      have hW1 : WX ν X1 := by rw [hX1]; exact wx_cg hW (fun kk hk => xs_nk (by omega))
      have eC1 : nC X1 = 5 := by rw [← eC, hX1]; unfold nC; rw [xs_nk (by decide)]
      have eS1 : nS X1 = 5 := by rw [← eS, hX1]; unfold nS; rw [xs_nk (by decide)]
      have eF1 : nF X1 = 12 := by rw [← eF, hX1]; unfold nF; rw [xs_nk (by decide)]
      have e12 : X1 12 = X 12 := by rw [hX1, xs_nk (by decide)]
      have e13 : X1 13 = X 13 := by rw [hX1, xs_nk (by decide)]
      have e4 : X1 4 = X 4 := by rw [hX1, xs_nk (by decide)]
      have e45n : X1 45 0 r4 = (r188 : Int) := by rw [hX1, xs_all, if_pos ⟨rfl, rfl, rfl⟩]
      refine ev_ald0 193 dL_changes_192 rfl ?_
      refine ev_ild3 194 dL_changes_193 rfl ?_
      refine ev_ald1 195 dL_changes_194 rfl ?_
      refine ev_getfieldN 198 14 4 fln_L_188 (tr40 hT) rfl dL_changes_195 rfl ?_
      refine ev_ild3 199 dL_changes_198 rfl ?_
      refine tv_iald 200 (tr45 hT) (r4) (by omega) (by omega) (by omega) dL_changes_199 rfl ?_
      rw [e45n]
      refine tm_V2 203 13 dL_changes_200 lkv_L_191 (tr0 hT) rfl rfl (by first | decide | omega) (Nat.le_of_ble_eq_true rfl) (c_X11_require_ok hT hW1 (by omega) (f := r188) (by omega)) (fun h X2 hT hP => ?_)
      rw [e12]
      have hI2 : INV e ν X2 := by rw [hP.1, hX1]; exact INV_rq hI (by rw [← hX1]; exact wx_rq hW1 (by omega))
      refine ev_ild5 205 dL_changes_203 rfl ?_
      refine tj_icmp_ne 212 208 dL_changes_205 (by decide) rfl (by first | exact TR.rng hT _ _ _ | exact R31_of _ | exact bi_R _ | assumption | (constructor <;> omega)) (by first | exact TR.rng hT _ _ _ | exact R31_of _ | exact bi_R _ | assumption | (constructor <;> omega)) (fun c205 => ?_) (fun c205 => ?_)
      · exact False.elim (by rw [decide_eq_true (show X 12 r4 5 ≠ -1 by omega)] at c205; exact c205 rfl)
      · skip
        refine tj_iconst 209 dL_changes_208 rfl ?_
        refine ev_goto 213 dL_changes_209 (by decide) ?_
        exact lz_ret (p := true) (by first | rfl | omega | exact bi_dt (by omega) | exact bi_df (by omega) | (rfl)) hT (by exact ⟨rfl, rfl, hI2⟩) rfl dL_changes_213
  · skip
    have e45 := tl_45 hTL hr4
    have hrq := wo_req hW.1 r4 (by omega)
    refine ev_tswIn 2 214 dL_changes_23 (by omega) rfl (by decide) (by first | exact TR.rng hT _ _ _ | exact R31_of _ | exact bi_R _ | assumption | (constructor <;> omega)) (by decide) ?_
    refine ev_ald1 215 dL_changes_214 rfl ?_
    refine ev_getfieldN 218 14 4 fln_L_188 (tr40 hT) rfl dL_changes_215 rfl ?_
    refine ev_ild3 219 dL_changes_218 rfl ?_
    refine tv_iald 220 (tr45 hT) (r4) (by omega) (by omega) (by omega) dL_changes_219 rfl ?_
    refine tj_if_lt 227 223 dL_changes_220 (by decide) rfl (by first | exact TR.rng hT _ _ _ | exact R31_of _ | exact bi_R _ | assumption | (constructor <;> omega)) (fun c220 => ?_) (fun c220 => ?_)
    · skip
      refine tj_iconst 228 dL_changes_227 rfl ?_
      refine ev_ist5 230 dL_changes_228 rfl (by decide) rfl ?_
      refine ev_ald1 231 dL_changes_230 rfl ?_
      refine ev_getfieldN 234 14 4 fln_L_188 (tr40 hT) rfl dL_changes_231 rfl ?_
      refine ev_ild3 235 dL_changes_234 rfl ?_
      refine tj_iconst 236 dL_changes_235 rfl ?_
      refine tv_iast 237 hT (tv45 hT) (fun _ => rfl) (r4) (by omega) (by omega) (by omega) (by first | exact TR.rng hT _ _ _ | exact R31_of _ | exact bi_R _ | assumption | (constructor <;> omega)) dL_changes_236 rfl (fun h hT => ?_)
      obtain ⟨X1, hX1⟩ : ∃ Z, Z = xs X 45 0 (r4) ((-1 : Int)) := ⟨_, rfl⟩
      rw [← hX1] at hT
      have hW1 : WX ν X1 := by rw [hX1]; exact wx_cg hW (fun kk hk => xs_nk (by omega))
      have eC1 : nC X1 = 5 := by rw [← eC, hX1]; unfold nC; rw [xs_nk (by decide)]
      have eS1 : nS X1 = 5 := by rw [← eS, hX1]; unfold nS; rw [xs_nk (by decide)]
      have eF1 : nF X1 = 12 := by rw [← eF, hX1]; unfold nF; rw [xs_nk (by decide)]
      have e12 : X1 12 = X 12 := by rw [hX1, xs_nk (by decide)]
      have e13 : X1 13 = X 13 := by rw [hX1, xs_nk (by decide)]
      have e4 : X1 4 = X 4 := by rw [hX1, xs_nk (by decide)]
      refine ev_ald0 238 dL_changes_237 rfl ?_
      refine ev_ild3 239 dL_changes_238 rfl ?_
      refine tm_V1 242 13 dL_changes_239 lkv_L_194 (tr0 hT) rfl rfl (by first | decide | omega) (Nat.le_of_ble_eq_true rfl) (c_X11_lift_ok hT hW1 (by omega)) (fun h X2 hT hP => ?_)
      rw [e12]
      have hI2 : INV e ν X2 := by rw [hP.1, hX1]; exact INV_rq hI (by rw [← hX1]; exact wx_rq hW1 (by omega))
      refine ev_ild5 244 dL_changes_242 rfl ?_
      refine tj_icmp_ne 251 247 dL_changes_244 (by decide) rfl (by first | exact TR.rng hT _ _ _ | exact R31_of _ | exact bi_R _ | assumption | (constructor <;> omega)) (by first | exact TR.rng hT _ _ _ | exact R31_of _ | exact bi_R _ | assumption | (constructor <;> omega)) (fun c244 => ?_) (fun c244 => ?_)
      · exact False.elim (by rw [decide_eq_false (show ¬ X 12 r4 5 ≠ -1 by omega)] at c244; exact c244 rfl)
      · skip
        refine tj_iconst 248 dL_changes_247 rfl ?_
        refine ev_goto 252 dL_changes_248 (by decide) ?_
        exact lz_ret (p := true) (by first | rfl | omega | exact bi_dt (by omega) | exact bi_df (by omega) | (rfl)) hT (by exact ⟨rfl, rfl, hI2⟩) rfl dL_changes_252
    · skip
      refine tj_iconst 224 dL_changes_223 rfl ?_
      refine ev_goto 228 dL_changes_224 (by decide) ?_
      refine ev_ist5 230 dL_changes_228 rfl (by decide) rfl ?_
      refine ev_ald1 231 dL_changes_230 rfl ?_
      refine ev_getfieldN 234 14 4 fln_L_188 (tr40 hT) rfl dL_changes_231 rfl ?_
      refine ev_ild3 235 dL_changes_234 rfl ?_
      refine tj_iconst 236 dL_changes_235 rfl ?_
      refine tv_iast 237 hT (tv45 hT) (fun _ => rfl) (r4) (by omega) (by omega) (by omega) (by first | exact TR.rng hT _ _ _ | exact R31_of _ | exact bi_R _ | assumption | (constructor <;> omega)) dL_changes_236 rfl (fun h hT => ?_)
      obtain ⟨X1, hX1⟩ : ∃ Z, Z = xs X 45 0 (r4) ((-1 : Int)) := ⟨_, rfl⟩
      rw [← hX1] at hT
      have hW1 : WX ν X1 := by rw [hX1]; exact wx_cg hW (fun kk hk => xs_nk (by omega))
      have eC1 : nC X1 = 5 := by rw [← eC, hX1]; unfold nC; rw [xs_nk (by decide)]
      have eS1 : nS X1 = 5 := by rw [← eS, hX1]; unfold nS; rw [xs_nk (by decide)]
      have eF1 : nF X1 = 12 := by rw [← eF, hX1]; unfold nF; rw [xs_nk (by decide)]
      have e12 : X1 12 = X 12 := by rw [hX1, xs_nk (by decide)]
      have e13 : X1 13 = X 13 := by rw [hX1, xs_nk (by decide)]
      have e4 : X1 4 = X 4 := by rw [hX1, xs_nk (by decide)]
      refine ev_ald0 238 dL_changes_237 rfl ?_
      refine ev_ild3 239 dL_changes_238 rfl ?_
      refine tm_V1 242 13 dL_changes_239 lkv_L_194 (tr0 hT) rfl rfl (by first | decide | omega) (Nat.le_of_ble_eq_true rfl) (c_X11_lift_ok hT hW1 (by omega)) (fun h X2 hT hP => ?_)
      rw [e12]
      have hI2 : INV e ν X2 := by rw [hP.1, hX1]; exact INV_rq hI (by rw [← hX1]; exact wx_rq hW1 (by omega))
      refine ev_ild5 244 dL_changes_242 rfl ?_
      refine tj_icmp_ne 251 247 dL_changes_244 (by decide) rfl (by first | exact TR.rng hT _ _ _ | exact R31_of _ | exact bi_R _ | assumption | (constructor <;> omega)) (by first | exact TR.rng hT _ _ _ | exact R31_of _ | exact bi_R _ | assumption | (constructor <;> omega)) (fun c244 => ?_) (fun c244 => ?_)
      · exact False.elim (by rw [decide_eq_true (show X 12 r4 5 ≠ -1 by omega)] at c244; exact c244 rfl)
      · skip
        refine tj_iconst 248 dL_changes_247 rfl ?_
        refine ev_goto 252 dL_changes_248 (by decide) ?_
        exact lz_ret (p := true) (by first | rfl | omega | exact bi_dt (by omega) | exact bi_df (by omega) | (rfl)) hT (by exact ⟨rfl, rfl, hI2⟩) rfl dL_changes_252
  · skip
    have e49 := tl_49 hTL hr4
    have hmj := wo_maj hW.1 r4 (by omega)
    refine ev_tswIn 3 253 dL_changes_23 (by omega) rfl (by decide) (by first | exact TR.rng hT _ _ _ | exact R31_of _ | exact bi_R _ | assumption | (constructor <;> omega)) (by decide) ?_
    refine ev_ald1 254 dL_changes_253 rfl ?_
    refine ev_getfieldN 257 14 8 fln_L_59 (tr40 hT) rfl dL_changes_254 rfl ?_
    refine ev_ild3 258 dL_changes_257 rfl ?_
    refine tv_iald 259 (tr49 hT) (r4) (by omega) (by omega) (by omega) dL_changes_258 rfl ?_
    refine ev_ist5 261 dL_changes_259 rfl (by decide) rfl ?_
    refine ev_ald1 262 dL_changes_261 rfl ?_
    refine ev_getfieldN 265 14 8 fln_L_59 (tr40 hT) rfl dL_changes_262 rfl ?_
    refine ev_ild3 266 dL_changes_265 rfl ?_
    refine ev_ild4 268 dL_changes_266 rfl ?_
    refine tv_iast 269 hT (tv49 hT) (fun _ => rfl) (r4) (by omega) (by omega) (by omega) (by first | exact TR.rng hT _ _ _ | exact R31_of _ | exact bi_R _ | assumption | (constructor <;> omega)) dL_changes_268 rfl (fun h hT => ?_)
    obtain ⟨X1, hX1⟩ : ∃ Z, Z = xs X 49 0 (r4) ((r13 : Int)) := ⟨_, rfl⟩
    rw [← hX1] at hT
    have hW1 : WX ν X1 := by rw [hX1]; exact wx_cg hW (fun kk hk => xs_nk (by omega))
    have eC1 : nC X1 = 5 := by rw [← eC, hX1]; unfold nC; rw [xs_nk (by decide)]
    have eS1 : nS X1 = 5 := by rw [← eS, hX1]; unfold nS; rw [xs_nk (by decide)]
    have eF1 : nF X1 = 12 := by rw [← eF, hX1]; unfold nF; rw [xs_nk (by decide)]
    have e12 : X1 12 = X 12 := by rw [hX1, xs_nk (by decide)]
    have e13 : X1 13 = X 13 := by rw [hX1, xs_nk (by decide)]
    have e4 : X1 4 = X 4 := by rw [hX1, xs_nk (by decide)]
    refine ev_ald0 270 dL_changes_269 rfl ?_
    refine ev_ild3 271 dL_changes_270 rfl ?_
    refine ev_ild4 273 dL_changes_271 rfl ?_
    refine tm_V2 276 13 dL_changes_273 lkv_L_198 (tr0 hT) rfl rfl (by first | decide | omega) (Nat.le_of_ble_eq_true rfl) (c_X11_changeMajor_ok hT hW1 (by omega) ⟨by omega, by omega⟩ (by omega)) (fun h X2 hT hP => ?_)
    rw [e4]
    have hI2 : INV e ν X2 := by rw [hP.1, hX1]; exact INV_cm hI (by rw [← hX1]; exact wx_cm hW1 (by omega))
    refine ev_ild5 278 dL_changes_276 rfl ?_
    refine tj_icmp_ne 285 281 dL_changes_278 (by decide) rfl (by first | exact TR.rng hT _ _ _ | exact R31_of _ | exact bi_R _ | assumption | (constructor <;> omega)) (by first | exact TR.rng hT _ _ _ | exact R31_of _ | exact bi_R _ | assumption | (constructor <;> omega)) (fun c278 => ?_) (fun c278 => ?_)
    · exact False.elim (by omega)
    · skip
      refine tj_iconst 282 dL_changes_281 rfl ?_
      refine ev_goto 286 dL_changes_282 (by decide) ?_
      exact lz_ret (p := true) (by first | rfl | omega | exact bi_dt (by omega) | exact bi_df (by omega) | (rfl)) hT (by exact ⟨rfl, rfl, hI2⟩) rfl dL_changes_286
  · skip
    have hmv : 0 ≤ movd X r4 := (crS_0 hW.1 (mvd X r4) (nC X).toNat (by omega)).1
    have hcr := wo_crd hW.1 r13 (by omega)
    have hcrd : X 12 r13 1 ≤ 6 := hcr.2
    refine ev_tswOut 287 dL_changes_23 (by first | exact TR.rng hT _ _ _ | exact R31_of _ | exact bi_R _ | assumption | (constructor <;> omega)) (by omega) (by decide) ?_
    refine ev_ald0 288 dL_changes_287 rfl ?_
    refine ev_ild3 289 dL_changes_288 rfl ?_
    refine ev_ild4 291 dL_changes_289 rfl ?_
    refine tp_SH (2) (12) 294 dL_changes_291 lh_L_201 (c_L_best hT hW hO (by omega) (by omega)) (by first | decide | omega) rfl rfl (Nat.le_of_ble_eq_true rfl) rfl (by omega) (by omega) ?_
    refine tj_bipush 296 dL_changes_294 (by decide) rfl ?_
    refine tj_icmp_lt 303 299 dL_changes_296 (by decide) rfl (by first | exact TR.rng hT _ _ _ | exact R31_of _ | exact bi_R _ | assumption | (constructor <;> omega)) (by first | exact TR.rng hT _ _ _ | exact R31_of _ | exact bi_R _ | assumption | (constructor <;> omega)) (fun c296 => ?_) (fun c296 => ?_)
    · skip
      refine tj_iconst 304 dL_changes_303 rfl ?_
      refine ev_ist5 306 dL_changes_304 rfl (by decide) rfl ?_
      refine ev_ald0 307 dL_changes_306 rfl ?_
      refine ev_ild3 308 dL_changes_307 rfl ?_
      refine ev_ild4 310 dL_changes_308 rfl ?_
      have q50 : ¬ 50 ≤ X 8 r4 r13 := by omega
      obtain ⟨E, hE⟩ : ∃ E : Int, E = (if 12 < movd X r4 + X 12 r13 1 then -3 else movd X r4 + X 12 r13 1) := ⟨_, rfl⟩
      have hER : R31 E := by constructor <;> (split at hE <;> omega)
      refine tl_SH (1) (6) 313 dL_changes_310 lh_L_204 (c_L_moveIn hT hI (by omega) (by omega)) (by first | decide | omega) rfl rfl (Nat.le_of_ble_eq_true rfl) rfl (by omega) (by omega) (fun h α ν X hT hP310 => ?_)
      obtain ⟨f0, f40, hI, hz1, hz2⟩ := hP310
      rw [← f0, ← f40]
      obtain ⟨⟨hW, hV, hS, hO, hTL, hM, he⟩, hN⟩ := id hI
      obtain ⟨eC, eS, eF⟩ := id hO
      rw [if_neg q50, ← hE]
      refine ev_ist6 315 dL_changes_313 rfl (by decide) rfl ?_
      refine ev_ild5 317 dL_changes_315 rfl ?_
      refine tj_if_eq 335 320 dL_changes_317 (by decide) rfl (by first | exact TR.rng hT _ _ _ | exact R31_of _ | exact bi_R _ | assumption | (constructor <;> omega)) (fun c317 => ?_) (fun c317 => ?_)
      · skip
        refine ev_ild6 337 dL_changes_335 rfl ?_
        refine tj_bipush 339 dL_changes_337 (by decide) rfl ?_
        refine tj_icmp_eq 373 342 dL_changes_339 (by decide) rfl (by first | exact TR.rng hT _ _ _ | exact R31_of _ | exact bi_R _ | assumption | (constructor <;> omega)) (by first | exact TR.rng hT _ _ _ | exact R31_of _ | exact bi_R _ | assumption | (constructor <;> omega)) (fun c339 => ?_) (fun c339 => ?_)
        · skip
          refine tj_iconst 374 dL_changes_373 rfl ?_
          refine ev_goto 378 dL_changes_374 (by decide) ?_
          exact lz_ret (p := true) (by first | rfl | omega | exact bi_dt (by omega) | exact bi_df (by omega) | (rfl)) hT (by exact ⟨rfl, rfl, hI⟩) rfl dL_changes_378
        · skip
          have e46 := tl_46 hTL (show r13 < 5 by omega)
          have hz1 := hz1 (by omega)
          refine ev_ild6 344 dL_changes_342 rfl ?_
          refine ev_ald1 345 dL_changes_344 rfl ?_
          refine ev_getfieldN 348 14 5 fln_L_40 (tr40 hT) rfl dL_changes_345 rfl ?_
          refine ev_ild4 350 dL_changes_348 rfl ?_
          refine tv_iald 351 (tr46 hT) (r13) (by omega) (by omega) (by omega) dL_changes_350 rfl ?_
          refine tj_icmp_lt 377 354 dL_changes_351 (by decide) rfl (by first | exact TR.rng hT _ _ _ | exact R31_of _ | exact bi_R _ | assumption | (constructor <;> omega)) (by first | exact TR.rng hT _ _ _ | exact R31_of _ | exact bi_R _ | assumption | (constructor <;> omega)) (fun c351 => ?_) (fun c351 => ?_)
          · exact False.elim (by split at hE <;> omega)
          · skip
            refine ev_ild6 356 dL_changes_354 rfl ?_
            refine tj_bipush 358 dL_changes_356 (by decide) rfl ?_
            refine tj_icmp_gt 377 361 dL_changes_358 (by decide) rfl (by first | exact TR.rng hT _ _ _ | exact R31_of _ | exact bi_R _ | assumption | (constructor <;> omega)) (by first | exact TR.rng hT _ _ _ | exact R31_of _ | exact bi_R _ | assumption | (constructor <;> omega)) (fun c358 => ?_) (fun c358 => ?_)
            · exact False.elim (by split at hE <;> omega)
            · skip
              refine ev_ald0 362 dL_changes_361 rfl ?_
              refine ev_ild3 363 dL_changes_362 rfl ?_
              refine ev_ild4 365 dL_changes_363 rfl ?_
              refine tp_SH (0) (0) 368 dL_changes_365 lh_L_201 (c_L_best hT hW hO (by omega) (by omega)) (by first | decide | omega) rfl rfl (Nat.le_of_ble_eq_true rfl) rfl (by omega) (by omega) ?_
              refine tj_bipush 370 dL_changes_368 (by decide) rfl ?_
              refine tj_icmp_ne 377 373 dL_changes_370 (by decide) rfl (by first | exact TR.rng hT _ _ _ | exact R31_of _ | exact bi_R _ | assumption | (constructor <;> omega)) (by first | exact TR.rng hT _ _ _ | exact R31_of _ | exact bi_R _ | assumption | (constructor <;> omega)) (fun c370 => ?_) (fun c370 => ?_)
              · exact False.elim (by have := hz1 (by split at hE <;> omega); omega)
              · skip
                refine tj_iconst 374 dL_changes_373 rfl ?_
                refine ev_goto 378 dL_changes_374 (by decide) ?_
                exact lz_ret (p := true) (by first | rfl | omega | exact bi_dt (by omega) | exact bi_df (by omega) | (rfl)) hT (by exact ⟨rfl, rfl, hI⟩) rfl dL_changes_378
      · exact False.elim (by omega)
    · skip
      refine tj_iconst 300 dL_changes_299 rfl ?_
      refine ev_goto 304 dL_changes_300 (by decide) ?_
      refine ev_ist5 306 dL_changes_304 rfl (by decide) rfl ?_
      refine ev_ald0 307 dL_changes_306 rfl ?_
      refine ev_ild3 308 dL_changes_307 rfl ?_
      refine ev_ild4 310 dL_changes_308 rfl ?_
      have q50 : 50 ≤ X 8 r4 r13 := by omega
      refine tl_SH (1) (6) 313 dL_changes_310 lh_L_204 (c_L_moveIn hT hI (by omega) (by omega)) (by first | decide | omega) rfl rfl (Nat.le_of_ble_eq_true rfl) rfl (by omega) (by omega) (fun h α ν X hT hP310 => ?_)
      obtain ⟨f0, f40, hI, hz1, hz2⟩ := hP310
      rw [← f0, ← f40]
      obtain ⟨⟨hW, hV, hS, hO, hTL, hM, he⟩, hN⟩ := id hI
      obtain ⟨eC, eS, eF⟩ := id hO
      rw [if_pos q50]
      refine ev_ist6 315 dL_changes_313 rfl (by decide) rfl ?_
      refine ev_ild5 317 dL_changes_315 rfl ?_
      refine tj_if_eq 335 320 dL_changes_317 (by decide) rfl (by first | exact TR.rng hT _ _ _ | exact R31_of _ | exact bi_R _ | assumption | (constructor <;> omega)) (fun c317 => ?_) (fun c317 => ?_)
      · exact False.elim (by omega)
      · skip
        refine ev_ild6 322 dL_changes_320 rfl ?_
        refine tj_bipush 324 dL_changes_322 (by decide) rfl ?_
        refine tj_icmp_ne 331 327 dL_changes_324 (by decide) rfl (by first | exact TR.rng hT _ _ _ | exact R31_of _ | exact bi_R _ | assumption | (constructor <;> omega)) (by first | exact TR.rng hT _ _ _ | exact R31_of _ | exact bi_R _ | assumption | (constructor <;> omega)) (fun c324 => ?_) (fun c324 => ?_)
        · exact False.elim (by omega)
        · skip
          refine tj_iconst 328 dL_changes_327 rfl ?_
          refine ev_goto 378 dL_changes_328 (by decide) ?_
          exact lz_ret (p := true) (by first | rfl | omega | exact bi_dt (by omega) | exact bi_df (by omega) | (rfl)) hT (by exact ⟨rfl, rfl, hI⟩) rfl dL_changes_378
