/-! WHAT IS TOLD AGREES -/
theorem day_w {X : XM} (hO : WO X) {c : Nat} (hc : (c : Int) < nC X) : X 0 0 5 ≤ 5 ∨ X 1 (4 + c) 2 = 0 := by
  rcases Int.lt_or_le 5 (X 0 0 5) with z | z
  · exact Or.inr (wo_w6 hO c hc z)
  · exact Or.inl z
set_option maxRecDepth 100000 in
set_option maxHeartbeats 4000000 in
theorem c_L_agrees {g : Gt} {α : AL} {ν : Nat → Nat → Bool} {X : XM} {h : AH} (hT : TR g α ν X h) (hW : WX ν X) (hO : OFF X) (hTL : TLD X) (hS : SD X) (hN : NWT X) {v : Int32}  : Ct g M_L_agrees 45 [.ref (α 0 0), .ref (α 40 0), .int v] h 8384 51304 (PQ (some (.int (J (bi true)))) h) := by
  refine ct_of_ev rfl rfl (ls := [some (.ref (α 0 0)), some (.ref (α 40 0)), some (.int v), none, none, none, none, none]) rfl (Nat.le_of_ble_eq_true rfl) ?_
  show Ev g M_L_agrees 45 0 [some (.ref (α 0 0)), some (.ref (α 40 0)), some (.int v), none, none, none, none, none] [] h 8384 51304 (PQ (some (.int (J (bi true)))) h)
  obtain ⟨eC, eS, eF⟩ := id hO
  refine ev_ild2 1 dL_agrees_0 rfl ?_
  refine tj_iconst 2 dL_agrees_1 rfl ?_
  refine ly_low (5) 5 dL_agrees_2 lks_L_50 (by omega) (by omega) (by omega) rfl (by first | decide | omega) (Nat.le_of_ble_eq_true rfl) (fun r2 hr2 => ?_)
  have hl18 := hS.2.1 r2 (by omega)
  have e49 := tl_49 hTL hr2
  have hmj := wo_maj hW.1 r2 (by omega)
  have hld := crS_0 hW.1 (tak X r2) (nC X).toNat (by omega)
  have hld2 : load X r2 = crS X (tak X r2) (nC X).toNat := rfl
  have her := crS_0 hW.1 (psd X r2) (nC X).toNat (by omega)
  have her2 : ernd X r2 = crS X (psd X r2) (nC X).toNat := rfl
  refine ev_ist3 6 dL_agrees_5 rfl (by decide) rfl ?_
  refine ev_ild2 7 dL_agrees_6 rfl ?_
  refine tj_iconst 8 dL_agrees_7 rfl ?_
  refine ev_ishr 9 dL_agrees_8 rfl ?_
  refine tj_bipush 11 dL_agrees_9 (by decide) rfl ?_
  refine ly_low (12) 14 dL_agrees_11 lks_L_50 (by omega) (by omega) (by omega) rfl (by first | decide | omega) (Nat.le_of_ble_eq_true rfl) (fun r11 hr11 => ?_)
  refine ev_ist4 16 dL_agrees_14 rfl (by decide) rfl ?_
  refine ev_ald0 17 dL_agrees_16 rfl ?_
  refine ev_ild3 18 dL_agrees_17 rfl ?_
  refine ev_ild4 20 dL_agrees_18 rfl ?_
  refine tc_V2 23 13 dL_agrees_20 lkv_L_109 (tr0 hT) rfl rfl (by first | decide | omega) (Nat.le_of_ble_eq_true rfl) (c_X11_holds_ok hT hW (by omega) (by omega)) ?_
  refine ev_ald1 24 dL_agrees_23 rfl ?_
  refine ev_ald0 25 dL_agrees_24 rfl ?_
  refine ev_ild4 27 dL_agrees_25 rfl ?_
  refine ev_ild3 28 dL_agrees_27 rfl ?_
  refine tp_V (7655) (46930) 31 14 dL_agrees_28 lkv_L_113 (tr40 hT) rfl (k_X12_holds hT hW hO hTL (by omega) (by omega)) (by first | decide | omega) rfl rfl (Nat.le_of_ble_eq_true rfl) rfl (by omega) (by omega) ?_
  refine tj_icmp_ne 76 34 dL_agrees_31 (by decide) rfl (by first | exact TR.rng hT _ _ _ | exact R31_of _ | exact bi_R _ | assumption | (constructor <;> omega)) (by first | exact TR.rng hT _ _ _ | exact R31_of _ | exact bi_R _ | assumption | (constructor <;> omega)) (fun c31 => ?_) (fun c31 => ?_)
  · exact False.elim (c31 rfl)
  · skip
    refine ev_ald0 35 dL_agrees_34 rfl ?_
    refine ev_ild3 36 dL_agrees_35 rfl ?_
    refine tc_V1 39 13 dL_agrees_36 lkv_L_116 (tr0 hT) rfl rfl (by first | decide | omega) (Nat.le_of_ble_eq_true rfl) (c_X11_load_ok hT hW (by omega)) ?_
    refine ev_ald1 40 dL_agrees_39 rfl ?_
    refine ev_ald0 41 dL_agrees_40 rfl ?_
    refine ev_ild3 42 dL_agrees_41 rfl ?_
    refine tp_V (7655) (46930) 45 14 dL_agrees_42 lkv_L_119 (tr40 hT) rfl (c_X12_load hT hW hO hTL (by omega)) (by first | decide | omega) rfl rfl (Nat.le_of_ble_eq_true rfl) rfl (by omega) (by omega) ?_
    refine tj_icmp_ne 76 48 dL_agrees_45 (by decide) rfl (by first | exact TR.rng hT _ _ _ | exact R31_of _ | exact bi_R _ | assumption | (constructor <;> omega)) (by first | exact TR.rng hT _ _ _ | exact R31_of _ | exact bi_R _ | assumption | (constructor <;> omega)) (fun c45 => ?_) (fun c45 => ?_)
    · exact False.elim (c45 rfl)
    · skip
      refine ev_ald0 49 dL_agrees_48 rfl ?_
      refine ev_ild3 50 dL_agrees_49 rfl ?_
      refine tc_V1 53 13 dL_agrees_50 lkv_L_116 (tr0 hT) rfl rfl (by first | decide | omega) (Nat.le_of_ble_eq_true rfl) (c_X11_load_ok hT hW (by omega)) ?_
      refine tj_bipush 55 dL_agrees_53 (by decide) rfl ?_
      refine tj_icmp_gt 76 58 dL_agrees_55 (by decide) rfl (by first | exact TR.rng hT _ _ _ | exact R31_of _ | exact bi_R _ | assumption | (constructor <;> omega)) (by first | exact TR.rng hT _ _ _ | exact R31_of _ | exact bi_R _ | assumption | (constructor <;> omega)) (fun c55 => ?_) (fun c55 => ?_)
      · exact False.elim (by omega)
      · skip
        refine ev_ald0 59 dL_agrees_58 rfl ?_
        refine ev_ild3 60 dL_agrees_59 rfl ?_
        refine tc_V1 63 13 dL_agrees_60 lkv_L_122 (tr0 hT) rfl rfl (by first | decide | omega) (Nat.le_of_ble_eq_true rfl) (c_X11_earnedCredits_ok hT hW (by omega)) ?_
        refine ev_ald1 64 dL_agrees_63 rfl ?_
        refine ev_ald0 65 dL_agrees_64 rfl ?_
        refine ev_ild3 66 dL_agrees_65 rfl ?_
        refine tp_V (7650) (46900) 69 14 dL_agrees_66 lkv_L_125 (tr40 hT) rfl (c_X12_earned hT hW hO hTL (by omega)) (by first | decide | omega) rfl rfl (Nat.le_of_ble_eq_true rfl) rfl (by omega) (by omega) ?_
        refine tj_icmp_ne 76 72 dL_agrees_69 (by decide) rfl (by first | exact TR.rng hT _ _ _ | exact R31_of _ | exact bi_R _ | assumption | (constructor <;> omega)) (by first | exact TR.rng hT _ _ _ | exact R31_of _ | exact bi_R _ | assumption | (constructor <;> omega)) (fun c69 => ?_) (fun c69 => ?_)
        · exact False.elim (c69 rfl)
        · skip
          refine tj_iconst 73 dL_agrees_72 rfl ?_
          refine ev_goto 77 dL_agrees_73 (by decide) ?_
          refine ev_ist5 79 dL_agrees_77 rfl (by decide) rfl ?_
          refine tj_iconst 80 dL_agrees_79 rfl ?_
          refine ev_ist6 82 dL_agrees_80 rfl (by decide) rfl ?_
          have lp82 : ∀ (n82 : Nat) (c : Nat) (z6 : Int) (o7 : Option Value), 6 - c < n82 → (c ≤ 5) → z6 = (c : Int) → Ev g M_L_agrees 45 82 [some (.ref (α 0 0)), some (.ref (α 40 0)), some (.int v), some (.int (J (r2 : Int))), some (.int (J (r11 : Int))), some (.int (J 1)), some (.int (J z6)), o7] [] h (1530 * (5 - c)) (9380 * (5 - c)) (PQ (some (.int (J (bi true)))) h) := by
            intro n82
            induction n82 with
            | zero => intro c z6 o7 hm; exact absurd hm (Nat.not_lt_zero _)
            | succ n82 ih82 =>
              intro c z6 o7 hm82  hc e6
              subst e6
              refine ev_ild6 84 dL_agrees_82 rfl ?_
              refine tj_iconst 85 dL_agrees_84 rfl ?_
              refine tj_icmp_ge 313 88 dL_agrees_85 (by decide) rfl (by first | exact TR.rng hT _ _ _ | exact R31_of _ | exact bi_R _ | assumption | (constructor <;> omega)) (by first | exact TR.rng hT _ _ _ | exact R31_of _ | exact bi_R _ | assumption | (constructor <;> omega)) (fun c85 => ?_) (fun c85 => ?_)
              · skip
                refine ev_ild5 315 dL_agrees_313 rfl ?_
                exact tz_ret (by first | rfl | omega | exact bi_dt (by omega) | exact bi_df (by omega) | (skip)) rfl dL_agrees_315
              · skip
                have hSe := hS.1 c (by omega)
                have e47 := tl_47 hTL (show c < 5 by omega)
                have e46 := tl_46 hTL (show c < 5 by omega)
                have hse := wo_sea hW.1 c (by omega)
                have hcr := wo_crd hW.1 c (by omega)
                have hwn := wo_wN hW.1 c (by omega)
                have hen := enr_0 hW.1 c
                have hpR := plc_R X c r2 (X 1 (4 + c) 2).toNat
                have hpl : place X c r2 = plc X c r2 (X 1 (4 + c) 2).toNat := rfl
                have hf0 := free_0 hW.1 (show (c : Int) < nC X by omega) (X 49 0 r2)
                have hf1 := free_0 hW.1 (show (c : Int) < nC X by omega) (X 4 r2 0)
                have hdy := wo_day hW.1
                have hlt := ltr_c X r2 c
                refine ev_ild5 90 dL_agrees_88 rfl ?_
                refine tj_if_eq 313 93 dL_agrees_90 (by decide) rfl (by first | exact TR.rng hT _ _ _ | exact R31_of _ | exact bi_R _ | assumption | (constructor <;> omega)) (fun c90 => ?_) (fun c90 => ?_)
                · exact False.elim (by omega)
                · skip
                  refine ev_ald0 94 dL_agrees_93 rfl ?_
                  refine ev_ild6 96 dL_agrees_94 rfl ?_
                  refine tc_V1 99 13 dL_agrees_96 lkv_L_128 (tr0 hT) rfl rfl (by first | decide | omega) (Nat.le_of_ble_eq_true rfl) (c_X11_enrolled_ok hT hW (by omega)) ?_
                  refine ev_ald1 100 dL_agrees_99 rfl ?_
                  refine ev_ald0 101 dL_agrees_100 rfl ?_
                  refine ev_ild6 103 dL_agrees_101 rfl ?_
                  refine tj_iconst 104 dL_agrees_103 rfl ?_
                  refine tp_V (1530 + (1530 * (5 - (c + 1)))) (9380 + (9380 * (5 - (c + 1)))) 107 14 dL_agrees_104 lkv_L_131 (tr40 hT) rfl (c_X12_of hT hW hO hTL (by omega) (by omega)) (by first | decide | omega) rfl rfl (Nat.le_of_ble_eq_true rfl) rfl (by omega) (by omega) ?_
                  rw [ofP_enr eS c (show (-1 : Int) < 0 by omega)]
                  refine tj_icmp_ne 187 110 dL_agrees_107 (by decide) rfl (by first | exact TR.rng hT _ _ _ | exact R31_of _ | exact bi_R _ | assumption | (constructor <;> omega)) (by first | exact TR.rng hT _ _ _ | exact R31_of _ | exact bi_R _ | assumption | (constructor <;> omega)) (fun c107 => ?_) (fun c107 => ?_)
                  · exact False.elim (c107 rfl)
                  · skip
                    refine ev_ald0 111 dL_agrees_110 rfl ?_
                    refine ev_ild6 113 dL_agrees_111 rfl ?_
                    refine tc_V1 116 13 dL_agrees_113 lkv_L_128 (tr0 hT) rfl rfl (by first | decide | omega) (Nat.le_of_ble_eq_true rfl) (c_X11_enrolled_ok hT hW (by omega)) ?_
                    refine ev_ald1 117 dL_agrees_116 rfl ?_
                    refine ev_getfieldN 120 14 6 fln_L_53 (tr40 hT) rfl dL_agrees_117 rfl ?_
                    refine ev_ild6 122 dL_agrees_120 rfl ?_
                    refine tv_iald 123 (tr47 hT) (c) (by omega) (by omega) (by omega) dL_agrees_122 rfl ?_
                    refine tj_icmp_gt 187 126 dL_agrees_123 (by decide) rfl (by first | exact TR.rng hT _ _ _ | exact R31_of _ | exact bi_R _ | assumption | (constructor <;> omega)) (by first | exact TR.rng hT _ _ _ | exact R31_of _ | exact bi_R _ | assumption | (constructor <;> omega)) (fun c123 => ?_) (fun c123 => ?_)
                    · exact False.elim (by omega)
                    · skip
                      refine ev_ald0 127 dL_agrees_126 rfl ?_
                      refine ev_ild6 129 dL_agrees_127 rfl ?_
                      refine ev_ald1 130 dL_agrees_129 rfl ?_
                      refine ev_getfieldN 133 14 8 fln_L_59 (tr40 hT) rfl dL_agrees_130 rfl ?_
                      refine ev_ild3 134 dL_agrees_133 rfl ?_
                      refine tv_iald 135 (tr49 hT) (r2) (by omega) (by omega) (by omega) dL_agrees_134 rfl ?_
                      refine tc_V2 138 13 dL_agrees_135 lkv_L_135 (tr0 hT) rfl rfl (by first | decide | omega) (Nat.le_of_ble_eq_true rfl) (c_X11_freeSeats_ok hT hW (by omega) (by first | exact TR.rng hT _ _ _ | exact R31_of _ | exact bi_R _ | assumption | (constructor <;> omega)) (by omega)) ?_
                      refine ev_ald1 139 dL_agrees_138 rfl ?_
                      refine ev_ald0 140 dL_agrees_139 rfl ?_
                      refine ev_ild6 142 dL_agrees_140 rfl ?_
                      refine ev_ald1 143 dL_agrees_142 rfl ?_
                      refine ev_getfieldN 146 14 8 fln_L_59 (tr40 hT) rfl dL_agrees_143 rfl ?_
                      refine ev_ild3 147 dL_agrees_146 rfl ?_
                      refine tv_iald 148 (tr49 hT) (r2) (by omega) (by omega) (by omega) dL_agrees_147 rfl ?_
                      refine tp_V (1530 + (1530 * (5 - (c + 1)))) (9380 + (9380 * (5 - (c + 1)))) 151 14 dL_agrees_148 lkv_L_138 (tr40 hT) rfl (c_X12_free hT hW hO hTL (by omega) (by omega)) (by first | decide | omega) rfl rfl (Nat.le_of_ble_eq_true rfl) rfl (by omega) (by omega) ?_
                      refine tj_icmp_ne 187 154 dL_agrees_151 (by decide) rfl (by first | exact TR.rng hT _ _ _ | exact R31_of _ | exact bi_R _ | assumption | (constructor <;> omega)) (by first | exact TR.rng hT _ _ _ | exact R31_of _ | exact bi_R _ | assumption | (constructor <;> omega)) (fun c151 => ?_) (fun c151 => ?_)
                      · exact False.elim (c151 rfl)
                      · skip
                        refine ev_ald0 155 dL_agrees_154 rfl ?_
                        refine ev_ild3 156 dL_agrees_155 rfl ?_
                        refine ev_ild6 158 dL_agrees_156 rfl ?_
                        refine tc_V2 161 13 dL_agrees_158 lkv_L_141 (tr0 hT) rfl rfl (by first | decide | omega) (Nat.le_of_ble_eq_true rfl) (c_X11_outcome_ok hT hW (by omega) (by omega)) ?_
                        refine ev_ald1 162 dL_agrees_161 rfl ?_
                        refine ev_ald0 163 dL_agrees_162 rfl ?_
                        refine ev_ild3 164 dL_agrees_163 rfl ?_
                        refine ev_ild6 166 dL_agrees_164 rfl ?_
                        refine tp_V (730 + (1530 * (5 - (c + 1)))) (4380 + (9380 * (5 - (c + 1)))) 169 14 dL_agrees_166 lkv_L_144 (tr40 hT) rfl (c_X12_would hT hW hO hTL (by omega) (by omega)) (by first | decide | omega) rfl rfl (Nat.le_of_ble_eq_true rfl) rfl (by omega) (by omega) ?_
                        refine tj_icmp_ne 187 172 dL_agrees_169 (by decide) rfl (by first | exact TR.rng hT _ _ _ | exact R31_of _ | exact bi_R _ | assumption | (constructor <;> omega)) (by first | exact TR.rng hT _ _ _ | exact R31_of _ | exact bi_R _ | assumption | (constructor <;> omega)) (fun c169 => ?_) (fun c169 => ?_)
                        · exact False.elim (c169 rfl)
                        · skip
                          refine ev_ald0 173 dL_agrees_172 rfl ?_
                          refine ev_ild6 175 dL_agrees_173 rfl ?_
                          refine tc_V1 178 13 dL_agrees_175 lkv_L_148 (tr0 hT) rfl rfl (by first | decide | omega) (Nat.le_of_ble_eq_true rfl) (c_X11_waiting_ok hT hW (by omega)) ?_
                          refine tj_bipush 180 dL_agrees_178 (by decide) rfl ?_
                          refine tj_icmp_gt 187 183 dL_agrees_180 (by decide) rfl (by first | exact TR.rng hT _ _ _ | exact R31_of _ | exact bi_R _ | assumption | (constructor <;> omega)) (by first | exact TR.rng hT _ _ _ | exact R31_of _ | exact bi_R _ | assumption | (constructor <;> omega)) (fun c180 => ?_) (fun c180 => ?_)
                          · exact False.elim (by omega)
                          · skip
                            refine tj_iconst 184 dL_agrees_183 rfl ?_
                            refine ev_goto 188 dL_agrees_184 (by decide) ?_
                            refine ev_ist5 190 dL_agrees_188 rfl (by decide) rfl ?_
                            refine ev_ald0 191 dL_agrees_190 rfl ?_
                            refine ev_ild3 192 dL_agrees_191 rfl ?_
                            refine ev_ild6 194 dL_agrees_192 rfl ?_
                            refine tp_SH (729 + (1530 * (5 - (c + 1)))) (4374 + (9380 * (5 - (c + 1)))) 197 dL_agrees_194 lh_L_151 (c_L_place hT hW hO (by omega) (by omega)) (by first | decide | omega) rfl rfl (Nat.le_of_ble_eq_true rfl) rfl (by omega) (by omega) ?_
                            refine ev_ist7 199 dL_agrees_197 rfl (by decide) rfl ?_
                            refine ev_ild5 201 dL_agrees_199 rfl ?_
                            refine tj_if_eq 243 204 dL_agrees_201 (by decide) rfl (by first | exact TR.rng hT _ _ _ | exact R31_of _ | exact bi_R _ | assumption | (constructor <;> omega)) (fun c201 => ?_) (fun c201 => ?_)
                            · exact False.elim (by omega)
                            · skip
                              refine ev_ild7 206 dL_agrees_204 rfl ?_
                              refine tj_if_lt 239 209 dL_agrees_206 (by decide) rfl (by first | exact TR.rng hT _ _ _ | exact R31_of _ | exact bi_R _ | assumption | (constructor <;> omega)) (fun c206 => ?_) (fun c206 => ?_)
                              · skip
                                refine tj_iconst 240 dL_agrees_239 rfl ?_
                                refine ev_goto 244 dL_agrees_240 (by decide) ?_
                                refine ev_ist5 246 dL_agrees_244 rfl (by decide) rfl ?_
                                refine ev_ild5 248 dL_agrees_246 rfl ?_
                                refine tj_if_eq 304 251 dL_agrees_248 (by decide) rfl (by first | exact TR.rng hT _ _ _ | exact R31_of _ | exact bi_R _ | assumption | (constructor <;> omega)) (fun c248 => ?_) (fun c248 => ?_)
                                · exact False.elim (by omega)
                                · skip
                                  refine ev_ild7 253 dL_agrees_251 rfl ?_
                                  refine tj_if_lt 300 256 dL_agrees_253 (by decide) rfl (by first | exact TR.rng hT _ _ _ | exact R31_of _ | exact bi_R _ | assumption | (constructor <;> omega)) (fun c253 => ?_) (fun c253 => ?_)
                                  · skip
                                    refine tj_iconst 301 dL_agrees_300 rfl ?_
                                    refine ev_goto 305 dL_agrees_301 (by decide) ?_
                                    refine ev_ist5 307 dL_agrees_305 rfl (by decide) rfl ?_
                                    refine tj_inc6 310 dL_agrees_307 rfl (by decide) rfl ?_
                                    refine ev_goto 82 dL_agrees_310 (by decide) ?_
                                    exact ev_mono (by omega) (by omega) (ih82 (c + 1) _ _ (by omega) (by first | omega | assumption | omega) (by first | rfl | omega | (omega)))
                                  · exact False.elim (by omega)
                              · skip
                                have hq := ((snd_of hS hN).2 r2 (by omega)).2 c (by omega) (by omega)
                                have h6 := day_w hW.1 (show (c : Int) < nC X by omega)
                                refine ev_ild7 211 dL_agrees_209 rfl ?_
                                refine ev_ald0 212 dL_agrees_211 rfl ?_
                                refine ev_ild6 214 dL_agrees_212 rfl ?_
                                refine tc_V1 217 13 dL_agrees_214 lkv_L_148 (tr0 hT) rfl rfl (by first | decide | omega) (Nat.le_of_ble_eq_true rfl) (c_X11_waiting_ok hT hW (by omega)) ?_
                                refine tj_icmp_ge 243 220 dL_agrees_217 (by decide) rfl (by first | exact TR.rng hT _ _ _ | exact R31_of _ | exact bi_R _ | assumption | (constructor <;> omega)) (by first | exact TR.rng hT _ _ _ | exact R31_of _ | exact bi_R _ | assumption | (constructor <;> omega)) (fun c217 => ?_) (fun c217 => ?_)
                                · exact False.elim (by omega)
                                · skip
                                  refine ev_ald0 221 dL_agrees_220 rfl ?_
                                  refine ev_ild3 222 dL_agrees_221 rfl ?_
                                  refine ev_ild6 224 dL_agrees_222 rfl ?_
                                  refine tc_V2 227 13 dL_agrees_224 lkv_L_154 (tr0 hT) rfl rfl (by first | decide | omega) (Nat.le_of_ble_eq_true rfl) (c_X11_isEnrolled_ok hT hW (by omega) (by omega)) ?_
                                  refine tb_if_ne 243 230 dL_agrees_227 (by decide) rfl (fun c227 => ?_) (fun c227 => ?_)
                                  · exact False.elim (by rw [hq.1] at c227; cases c227)
                                  · skip
                                    refine ev_ald0 231 dL_agrees_230 rfl ?_
                                    refine tc_V0 234 13 dL_agrees_231 lkv_L_157 (tr0 hT) rfl rfl (by first | decide | omega) (Nat.le_of_ble_eq_true rfl) (c_X11_day_ok hT hW) ?_
                                    refine tj_bipush 236 dL_agrees_234 (by decide) rfl ?_
                                    refine tj_icmp_ge 243 239 dL_agrees_236 (by decide) rfl (by first | exact TR.rng hT _ _ _ | exact R31_of _ | exact bi_R _ | assumption | (constructor <;> omega)) (by first | exact TR.rng hT _ _ _ | exact R31_of _ | exact bi_R _ | assumption | (constructor <;> omega)) (fun c236 => ?_) (fun c236 => ?_)
                                    · exact False.elim (by omega)
                                    · skip
                                      refine tj_iconst 240 dL_agrees_239 rfl ?_
                                      refine ev_goto 244 dL_agrees_240 (by decide) ?_
                                      refine ev_ist5 246 dL_agrees_244 rfl (by decide) rfl ?_
                                      refine ev_ild5 248 dL_agrees_246 rfl ?_
                                      refine tj_if_eq 304 251 dL_agrees_248 (by decide) rfl (by first | exact TR.rng hT _ _ _ | exact R31_of _ | exact bi_R _ | assumption | (constructor <;> omega)) (fun c248 => ?_) (fun c248 => ?_)
                                      · exact False.elim (by omega)
                                      · skip
                                        refine ev_ild7 253 dL_agrees_251 rfl ?_
                                        refine tj_if_lt 300 256 dL_agrees_253 (by decide) rfl (by first | exact TR.rng hT _ _ _ | exact R31_of _ | exact bi_R _ | assumption | (constructor <;> omega)) (fun c253 => ?_) (fun c253 => ?_)
                                        · exact False.elim (by omega)
                                        · skip
                                          refine ev_ald0 257 dL_agrees_256 rfl ?_
                                          refine ev_ild6 259 dL_agrees_257 rfl ?_
                                          refine ev_ald1 260 dL_agrees_259 rfl ?_
                                          refine ev_getfieldN 263 14 8 fln_L_59 (tr40 hT) rfl dL_agrees_260 rfl ?_
                                          refine ev_ild3 264 dL_agrees_263 rfl ?_
                                          refine tv_iald 265 (tr49 hT) (r2) (by omega) (by omega) (by omega) dL_agrees_264 rfl ?_
                                          refine tc_V2 268 13 dL_agrees_265 lkv_L_135 (tr0 hT) rfl rfl (by first | decide | omega) (Nat.le_of_ble_eq_true rfl) (c_X11_freeSeats_ok hT hW (by omega) (by first | exact TR.rng hT _ _ _ | exact R31_of _ | exact bi_R _ | assumption | (constructor <;> omega)) (by omega)) ?_
                                          refine tj_if_eq 300 271 dL_agrees_268 (by decide) rfl (by first | exact TR.rng hT _ _ _ | exact R31_of _ | exact bi_R _ | assumption | (constructor <;> omega)) (fun c268 => ?_) (fun c268 => ?_)
                                          · skip
                                            refine tj_iconst 301 dL_agrees_300 rfl ?_
                                            refine ev_goto 305 dL_agrees_301 (by decide) ?_
                                            refine ev_ist5 307 dL_agrees_305 rfl (by decide) rfl ?_
                                            refine tj_inc6 310 dL_agrees_307 rfl (by decide) rfl ?_
                                            refine ev_goto 82 dL_agrees_310 (by decide) ?_
                                            exact ev_mono (by omega) (by omega) (ih82 (c + 1) _ _ (by omega) (by first | omega | assumption | omega) (by first | rfl | omega | (omega)))
                                          · skip
                                            rw [e49] at c268
                                            refine ev_ald0 272 dL_agrees_271 rfl ?_
                                            refine ev_ild3 273 dL_agrees_272 rfl ?_
                                            refine tc_V1 276 13 dL_agrees_273 lkv_L_116 (tr0 hT) rfl rfl (by first | decide | omega) (Nat.le_of_ble_eq_true rfl) (c_X11_load_ok hT hW (by omega)) ?_
                                            refine ev_ald1 277 dL_agrees_276 rfl ?_
                                            refine ev_getfieldN 280 14 5 fln_L_40 (tr40 hT) rfl dL_agrees_277 rfl ?_
                                            refine ev_ild6 282 dL_agrees_280 rfl ?_
                                            refine tv_iald 283 (tr46 hT) (c) (by omega) (by omega) (by omega) dL_agrees_282 rfl ?_
                                            refine tj_iadd 284 dL_agrees_283 rfl ?_
                                            refine tj_bipush 286 dL_agrees_284 (by decide) rfl ?_
                                            refine tj_icmp_gt 300 289 dL_agrees_286 (by decide) rfl (by first | exact TR.rng hT _ _ _ | exact R31_of _ | exact bi_R _ | assumption | (constructor <;> omega)) (by first | exact TR.rng hT _ _ _ | exact R31_of _ | exact bi_R _ | assumption | (constructor <;> omega)) (fun c286 => ?_) (fun c286 => ?_)
                                            · skip
                                              refine tj_iconst 301 dL_agrees_300 rfl ?_
                                              refine ev_goto 305 dL_agrees_301 (by decide) ?_
                                              refine ev_ist5 307 dL_agrees_305 rfl (by decide) rfl ?_
                                              refine tj_inc6 310 dL_agrees_307 rfl (by decide) rfl ?_
                                              refine ev_goto 82 dL_agrees_310 (by decide) ?_
                                              exact ev_mono (by omega) (by omega) (ih82 (c + 1) _ _ (by omega) (by first | omega | assumption | omega) (by first | rfl | omega | (omega)))
                                            · skip
                                              refine ev_ald1 290 dL_agrees_289 rfl ?_
                                              refine ev_ald0 291 dL_agrees_290 rfl ?_
                                              refine ev_ild3 292 dL_agrees_291 rfl ?_
                                              refine ev_ild6 294 dL_agrees_292 rfl ?_
                                              refine tp_V (1530 * (5 - (c + 1))) (9380 * (5 - (c + 1))) 297 14 dL_agrees_294 lkv_L_161 (tr40 hT) rfl (c_X12_may hT hW hO hTL (by omega) (by omega)) (by first | decide | omega) rfl rfl (Nat.le_of_ble_eq_true rfl) rfl (by omega) (by omega) ?_
                                              refine tb_if_ne 304 300 dL_agrees_297 (by decide) rfl (fun c297 => ?_) (fun c297 => ?_)
                                              · exact False.elim (by have z := hq.2; unfold canT fitsL at z; rw [decide_eq_true (show 0 < free X c (X 4 r2 0) by omega), decide_eq_true (show load X r2 + X 12 c 1 ≤ 18 by omega), c297] at z; cases z)
                                              · skip
                                                refine tj_iconst 301 dL_agrees_300 rfl ?_
                                                refine ev_goto 305 dL_agrees_301 (by decide) ?_
                                                refine ev_ist5 307 dL_agrees_305 rfl (by decide) rfl ?_
                                                refine tj_inc6 310 dL_agrees_307 rfl (by decide) rfl ?_
                                                refine ev_goto 82 dL_agrees_310 (by decide) ?_
                                                exact ev_mono (by omega) (by omega) (ih82 (c + 1) _ _ (by omega) (by first | omega | assumption | omega) (by first | rfl | omega | (omega)))
          exact ev_mono (by omega) (by omega) (lp82 _ (0) _ _ (Nat.lt_succ_self _) (by first | omega | assumption | omega) (by first | rfl | omega | (omega)))
theorem lc_ret {g : Gt} {α : AL} {ν : Nat → Nat → Bool} {X : XM} {M : Mt} {d pc : Nat} {ls : List (Option Value)} {h : AH} {mc ms : Nat} {a b : Int} {P : AL → (Nat → Nat → Bool) → XM → Prop} (e : a = b) (hb : 0 ≤ b ∧ b < 128) (hT : TR g α ν X h) (hP : P α ν X) (hr : mR M = some .char) (hd : decode (mC M) pc = .ok (.ireturn, 1)) : Ev g M d pc ls [.int (J a)] h mc ms (AQ g (some (.int (J b))) P) := by
  subst e
  exact ev_zreturn ⟨rfl, α, ν, X, hT, hP⟩ hr (nar_c hb) hd
set_option maxRecDepth 100000 in
set_option maxHeartbeats 4000000 in
theorem c_L_enroll {g : Gt} {α : AL} {ν : Nat → Nat → Bool} {X : XM} {h : AH} {e : Int} (hT : TR g α ν X h) (hI : INV e ν X) {s : Nat} (hs : s < 5) {c : Nat} (hc : c < 5) : Al g M_L_enroll 29 [.ref (α 0 0), .int (J (s : Int)), .int (J (c : Int))] h 1 100 (some (.int (J (if ltr X s c = 97 then 114 else ltr X s c)))) (fun α' ν' X' => α' 0 0 = α 0 0 ∧ α' 40 0 = α 40 0 ∧ INV e ν' X' ∧ (ltr X s c = 101 → tak X' s c = true) ∧ (ltr X s c = 119 → place X' c s ≠ -1)) := by
  obtain ⟨⟨hW, hV, hS, hO, hTL, hM, he⟩, hN⟩ := id hI
  obtain ⟨eC, eS, eF⟩ := id hO
  refine ct_of_evH rfl rfl (ls := [some (.ref (α 0 0)), some (.int (J (s : Int))), some (.int (J (c : Int))), none]) rfl (Nat.le_of_ble_eq_true rfl) ?_
  show Ev g M_L_enroll 29 0 [some (.ref (α 0 0)), some (.int (J (s : Int))), some (.int (J (c : Int))), none] [] h 1 100 (AQ g (some (.int (J (if ltr X s c = 97 then 114 else ltr X s c)))) (fun α' ν' X' => α' 0 0 = α 0 0 ∧ α' 40 0 = α 40 0 ∧ INV e ν' X' ∧ (ltr X s c = 101 → tak X' s c = true) ∧ (ltr X s c = 119 → place X' c s ≠ -1)))
  refine ev_ald0 1 dL_enroll_0 rfl ?_
  refine ev_ild1 2 dL_enroll_1 rfl ?_
  refine ev_ild2 3 dL_enroll_2 rfl ?_
  rcases ltr_in X s c with q | q | q | q | q | q | q | q
  · refine ev_mono (mc := 1 + 0) (ms := 6 + 0) (by omega) (by omega) ?_
    refine tz_V2 6 13 dL_enroll_3 lkv_L_17 (tr0 hT) rfl rfl (by decide) (Nat.le_of_ble_eq_true rfl) (c_X11_enroll_x2 hT hW (by omega) (by omega) q) ?_
    refine xv_catch (name := "java/lang/IllegalStateException") [(0, 6, 7, 21)] [(0, 6, 15, 25), (0, 6, 19, 27), (0, 6, 23, 29), (0, 6, 27, 15)] rfl (fun z hz => by rcases (by simpa using hz : z = (0, 6, 7, 21)) with rfl <;> first | exact ⟨by decide, "java/lang/IndexOutOfBoundsException", clL_21, by decide +kernel⟩) ⟨by decide, by decide⟩ (by decide) clL_23 cas_IllegalStateException (fun qa => ?_)
    refine ev_ast3 12 dL_enroll_11 rfl (by decide) rfl ?_
    refine tj_bipush 14 dL_enroll_12 (by decide) rfl ?_
    exact lc_ret (b := (if ltr X s c = 97 then 114 else ltr X s c)) (by rw [q]; rfl) (by rw [q]; decide) hT ⟨rfl, rfl, hI, fun z => absurd z (by omega), fun z => absurd z (by omega)⟩ rfl dL_enroll_14
  · refine ev_mono (mc := 1 + 0) (ms := 6 + 0) (by omega) (by omega) ?_
    refine tz_V2 6 13 dL_enroll_3 lkv_L_17 (tr0 hT) rfl rfl (by decide) (Nat.le_of_ble_eq_true rfl) (c_X11_enroll_x3 hT hW (by omega) (by omega) q) ?_
    refine xv_catch (name := "java/lang/IllegalArgumentException") [(0, 6, 7, 21), (0, 6, 11, 23)] [(0, 6, 19, 27), (0, 6, 23, 29), (0, 6, 27, 15)] rfl (fun z hz => by rcases (by simpa using hz : z = (0, 6, 7, 21) ∨ z = (0, 6, 11, 23)) with rfl | rfl <;> first | exact ⟨by decide, "java/lang/IndexOutOfBoundsException", clL_21, by decide +kernel⟩ | exact ⟨by decide, "java/lang/IllegalStateException", clL_23, by decide +kernel⟩) ⟨by decide, by decide⟩ (by decide) clL_25 cas_IllegalArgumentException (fun qa => ?_)
    refine ev_ast3 16 dL_enroll_15 rfl (by decide) rfl ?_
    refine tj_bipush 18 dL_enroll_16 (by decide) rfl ?_
    exact lc_ret (b := (if ltr X s c = 97 then 114 else ltr X s c)) (by rw [q]; rfl) (by rw [q]; decide) hT ⟨rfl, rfl, hI, fun z => absurd z (by omega), fun z => absurd z (by omega)⟩ rfl dL_enroll_18
  · refine ev_mono (mc := 1 + 0) (ms := 6 + 0) (by omega) (by omega) ?_
    refine tz_V2 6 13 dL_enroll_3 lkv_L_17 (tr0 hT) rfl rfl (by decide) (Nat.le_of_ble_eq_true rfl) (c_X11_enroll_x4a hT hW (by omega) (by omega) q) ?_
    refine xv_catch (name := "java/lang/UnsupportedOperationException") [(0, 6, 7, 21), (0, 6, 11, 23), (0, 6, 15, 25)] [(0, 6, 23, 29), (0, 6, 27, 15)] rfl (fun z hz => by rcases (by simpa using hz : z = (0, 6, 7, 21) ∨ z = (0, 6, 11, 23) ∨ z = (0, 6, 15, 25)) with rfl | rfl | rfl <;> first | exact ⟨by decide, "java/lang/IndexOutOfBoundsException", clL_21, by decide +kernel⟩ | exact ⟨by decide, "java/lang/IllegalStateException", clL_23, by decide +kernel⟩ | exact ⟨by decide, "java/lang/IllegalArgumentException", clL_25, by decide +kernel⟩) ⟨by decide, by decide⟩ (by decide) clL_27 cas_UnsupportedOperationException (fun qa => ?_)
    refine ev_ast3 20 dL_enroll_19 rfl (by decide) rfl ?_
    refine tj_bipush 22 dL_enroll_20 (by decide) rfl ?_
    exact lc_ret (b := (if ltr X s c = 97 then 114 else ltr X s c)) (by rw [q]; rfl) (by rw [q]; decide) hT ⟨rfl, rfl, hI, fun z => absurd z (by omega), fun z => absurd z (by omega)⟩ rfl dL_enroll_22
  · refine ev_mono (mc := 1 + 0) (ms := 6 + 0) (by omega) (by omega) ?_
    refine tz_V2 6 13 dL_enroll_3 lkv_L_17 (tr0 hT) rfl rfl (by decide) (Nat.le_of_ble_eq_true rfl) (c_X11_enroll_x4b hT hW (by omega) (by omega) q) ?_
    refine xv_catch (name := "java/lang/UnsupportedOperationException") [(0, 6, 7, 21), (0, 6, 11, 23), (0, 6, 15, 25)] [(0, 6, 23, 29), (0, 6, 27, 15)] rfl (fun z hz => by rcases (by simpa using hz : z = (0, 6, 7, 21) ∨ z = (0, 6, 11, 23) ∨ z = (0, 6, 15, 25)) with rfl | rfl | rfl <;> first | exact ⟨by decide, "java/lang/IndexOutOfBoundsException", clL_21, by decide +kernel⟩ | exact ⟨by decide, "java/lang/IllegalStateException", clL_23, by decide +kernel⟩ | exact ⟨by decide, "java/lang/IllegalArgumentException", clL_25, by decide +kernel⟩) ⟨by decide, by decide⟩ (by decide) clL_27 cas_UnsupportedOperationException (fun qa => ?_)
    refine ev_ast3 20 dL_enroll_19 rfl (by decide) rfl ?_
    refine tj_bipush 22 dL_enroll_20 (by decide) rfl ?_
    exact lc_ret (b := (if ltr X s c = 97 then 114 else ltr X s c)) (by rw [q]; rfl) (by rw [q]; decide) hT ⟨rfl, rfl, hI, fun z => absurd z (by omega), fun z => absurd z (by omega)⟩ rfl dL_enroll_22
  · refine ev_mono (mc := 1 + 0) (ms := 6 + 0) (by omega) (by omega) ?_
    refine tz_V2 6 13 dL_enroll_3 lkv_L_17 (tr0 hT) rfl rfl (by decide) (Nat.le_of_ble_eq_true rfl) (c_X11_enroll_x5 hT hW (by omega) (by omega) q) ?_
    refine xv_catch (name := "java/lang/ArithmeticException") [(0, 6, 7, 21), (0, 6, 11, 23), (0, 6, 15, 25), (0, 6, 19, 27)] [(0, 6, 27, 15)] rfl (fun z hz => by rcases (by simpa using hz : z = (0, 6, 7, 21) ∨ z = (0, 6, 11, 23) ∨ z = (0, 6, 15, 25) ∨ z = (0, 6, 19, 27)) with rfl | rfl | rfl | rfl <;> first | exact ⟨by decide, "java/lang/IndexOutOfBoundsException", clL_21, by decide +kernel⟩ | exact ⟨by decide, "java/lang/IllegalStateException", clL_23, by decide +kernel⟩ | exact ⟨by decide, "java/lang/IllegalArgumentException", clL_25, by decide +kernel⟩ | exact ⟨by decide, "java/lang/UnsupportedOperationException", clL_27, by decide +kernel⟩) ⟨by decide, by decide⟩ (by decide) clL_29 cas_ArithmeticException (fun qa => ?_)
    refine ev_ast3 24 dL_enroll_23 rfl (by decide) rfl ?_
    refine tj_bipush 26 dL_enroll_24 (by decide) rfl ?_
    exact lc_ret (b := (if ltr X s c = 97 then 114 else ltr X s c)) (by rw [q]; rfl) (by rw [q]; decide) hT ⟨rfl, rfl, hI, fun z => absurd z (by omega), fun z => absurd z (by omega)⟩ rfl dL_enroll_26
  · obtain ⟨l1, l2, -⟩ := ltr_at (Or.inl q)
    refine ev_mono (mc := 0) (ms := 0) (by omega) (by omega) ?_
    refine tm_V2 6 13 dL_enroll_3 lkv_L_17 (tr0 hT) rfl rfl (by decide) (Nat.le_of_ble_eq_true rfl) (c_X11_enroll_okt hT hW (by omega) (by omega) q l2) (fun h X1 hT hP => ?_)
    have hP1 := hP.1
    have hI2 := INV_gv (PRE_enr hI hs hc q)
    rw [← hP1] at hI2
    have ht : tak X1 s c = true := by rw [hP1]; exact tak_gv (by rw [tak_t1]; simp)
    exact lc_ret (b := (if ltr X s c = 97 then 114 else ltr X s c)) (by rw [q]; rfl) (by rw [q]; decide) hT ⟨rfl, rfl, hI2, fun _ => ht, fun z => absurd z (by omega)⟩ rfl dL_enroll_6
  · refine ev_mono (mc := 1 + 0) (ms := 6 + 0) (by omega) (by omega) ?_
    refine tz_V2 6 13 dL_enroll_3 lkv_L_17 (tr0 hT) rfl rfl (by decide) (Nat.le_of_ble_eq_true rfl) (c_X11_enroll_x6 hT hW (by omega) (by omega) q) ?_
    refine xv_catch (name := "java/util/NoSuchElementException") [(0, 6, 7, 21), (0, 6, 11, 23), (0, 6, 15, 25), (0, 6, 19, 27), (0, 6, 23, 29)] [] rfl (fun z hz => by rcases (by simpa using hz : z = (0, 6, 7, 21) ∨ z = (0, 6, 11, 23) ∨ z = (0, 6, 15, 25) ∨ z = (0, 6, 19, 27) ∨ z = (0, 6, 23, 29)) with rfl | rfl | rfl | rfl | rfl <;> first | exact ⟨by decide, "java/lang/IndexOutOfBoundsException", clL_21, by decide +kernel⟩ | exact ⟨by decide, "java/lang/IllegalStateException", clL_23, by decide +kernel⟩ | exact ⟨by decide, "java/lang/IllegalArgumentException", clL_25, by decide +kernel⟩ | exact ⟨by decide, "java/lang/UnsupportedOperationException", clL_27, by decide +kernel⟩ | exact ⟨by decide, "java/lang/ArithmeticException", clL_29, by decide +kernel⟩) ⟨by decide, by decide⟩ (by decide) clL_15 cas_NoSuchElementException (fun qa => ?_)
    refine ev_ast3 28 dL_enroll_27 rfl (by decide) rfl ?_
    refine tj_bipush 30 dL_enroll_28 (by decide) rfl ?_
    exact lc_ret (b := (if ltr X s c = 97 then 114 else ltr X s c)) (by rw [q]; rfl) (by rw [q]; decide) hT ⟨rfl, rfl, hI, fun z => absurd z (by omega), fun z => absurd z (by omega)⟩ rfl dL_enroll_30
  · obtain ⟨l1, l2, l3, l4, -⟩ := ltr_at (Or.inr q)
    refine ev_mono (mc := 1 + 0) (ms := 100 + 0) (by omega) (by omega) ?_
    refine ta_V2 6 13 dL_enroll_3 lkv_L_17 (tr0 hT) rfl rfl (by decide) (Nat.le_of_ble_eq_true rfl) (c_X11_enroll_okw hT hW hV (by omega) (by omega) q l1 (l4 q).1 l2) (fun h α1 ν1 X2 hT hP => ?_)
    obtain ⟨X1, p1, p2, p3, -⟩ := hP
    have hI1 := INV_add hI hs hc q p1 p2
    have e1 : X2 = X1 := by rw [p3]; exact gv_id p2.1 hI1.2
    subst e1
    exact lc_ret (b := (if ltr X s c = 97 then 114 else ltr X s c)) (by rw [q]; rfl) (by rw [q]; decide) hT ⟨p1.1 0 0 (by omega), p1.1 40 0 (by omega), hI1, fun z => absurd z (by omega), fun _ => place_add hW.1 (by omega) p1⟩ rfl dL_enroll_6
set_option maxRecDepth 100000 in
set_option maxHeartbeats 4000000 in
theorem c_L_moveIn {g : Gt} {α : AL} {ν : Nat → Nat → Bool} {X : XM} {h : AH} {e : Int} (hT : TR g α ν X h) (hI : INV e ν X) {s : Nat} (hs : s < 5) {c : Nat} (hc : c < 5) : Al g M_L_moveIn 29 [.ref (α 0 0), .int (J (s : Int)), .int (J (c : Int))] h 1 6 (some (.int (J (if 50 ≤ X 8 s c then -2 else if 12 < movd X s + X 12 c 1 then -3 else movd X s + X 12 c 1)))) (fun α' ν' X' => α' 0 0 = α 0 0 ∧ α' 40 0 = α 40 0 ∧ INV e ν' X' ∧ (X 8 s c < 50 → movd X s + X 12 c 1 ≤ 12 → X' 8 s c = 50) ∧ X' 12 c 1 = X 12 c 1) := by
  obtain ⟨⟨hW, hV, hS, hO, hTL, hM, he⟩, hN⟩ := id hI
  obtain ⟨eC, eS, eF⟩ := id hO
  refine ct_of_evH rfl rfl (ls := [some (.ref (α 0 0)), some (.int (J (s : Int))), some (.int (J (c : Int))), none]) rfl (Nat.le_of_ble_eq_true rfl) ?_
  show Ev g M_L_moveIn 29 0 [some (.ref (α 0 0)), some (.int (J (s : Int))), some (.int (J (c : Int))), none] [] h (1 + 0) (6 + 0) (AQ g (some (.int (J (if 50 ≤ X 8 s c then -2 else if 12 < movd X s + X 12 c 1 then -3 else movd X s + X 12 c 1)))) (fun α' ν' X' => α' 0 0 = α 0 0 ∧ α' 40 0 = α 40 0 ∧ INV e ν' X' ∧ (X 8 s c < 50 → movd X s + X 12 c 1 ≤ 12 → X' 8 s c = 50) ∧ X' 12 c 1 = X 12 c 1))
  refine ev_ald0 1 dL_moveIn_0 rfl ?_
  refine ev_ild1 2 dL_moveIn_1 rfl ?_
  refine ev_ild2 3 dL_moveIn_2 rfl ?_
  by_cases q : 50 ≤ X 8 s c
  · refine tz_V2 6 13 dL_moveIn_3 lkv_L_31 (tr0 hT) rfl rfl (by decide) (Nat.le_of_ble_eq_true rfl) (c_X11_moveIn_x2 hT hW (by omega) (by omega) q) ?_
    refine xv_catch (name := "java/lang/IllegalArgumentException") [(0, 6, 7, 21)] [(0, 6, 14, 29)] rfl (fun z hz => by rcases (by simpa using hz : z = (0, 6, 7, 21)) with rfl <;> first | exact ⟨by decide, "java/lang/IndexOutOfBoundsException", clL_21, by decide +kernel⟩) ⟨by decide, by decide⟩ (by decide) clL_25 cas_IllegalArgumentException (fun qa => ?_)
    refine ev_ast3 11 dL_moveIn_10 rfl (by decide) rfl ?_
    refine tj_bipush 13 dL_moveIn_11 (by decide) rfl ?_
    exact li_ret (b := (if 50 ≤ X 8 s c then -2 else if 12 < movd X s + X 12 c 1 then -3 else movd X s + X 12 c 1)) (by rw [if_pos q]) hT ⟨rfl, rfl, hI, fun z => absurd q (by omega), rfl⟩ rfl dL_moveIn_13
  · by_cases q2 : 12 < movd X s + X 12 c 1
    · refine tz_V2 6 13 dL_moveIn_3 lkv_L_31 (tr0 hT) rfl rfl (by decide) (Nat.le_of_ble_eq_true rfl) (c_X11_moveIn_x3 hT hW (by omega) (by omega) (by omega) q2) ?_
      refine xv_catch (name := "java/lang/ArithmeticException") [(0, 6, 7, 21), (0, 6, 10, 25)] [] rfl (fun z hz => by rcases (by simpa using hz : z = (0, 6, 7, 21) ∨ z = (0, 6, 10, 25)) with rfl | rfl <;> first | exact ⟨by decide, "java/lang/IndexOutOfBoundsException", clL_21, by decide +kernel⟩ | exact ⟨by decide, "java/lang/IllegalArgumentException", clL_25, by decide +kernel⟩) ⟨by decide, by decide⟩ (by decide) clL_29 cas_ArithmeticException (fun qa => ?_)
      refine ev_ast3 15 dL_moveIn_14 rfl (by decide) rfl ?_
      refine tj_bipush 17 dL_moveIn_15 (by decide) rfl ?_
      exact li_ret (b := (if 50 ≤ X 8 s c then -2 else if 12 < movd X s + X 12 c 1 then -3 else movd X s + X 12 c 1)) (by rw [if_neg q, if_pos q2]) hT ⟨rfl, rfl, hI, fun _ z => absurd q2 (by omega), rfl⟩ rfl dL_moveIn_17
    · refine tm_V2 6 13 dL_moveIn_3 lkv_L_31 (tr0 hT) rfl rfl (by decide) (Nat.le_of_ble_eq_true rfl) (c_X11_moveIn_ok hT hW (by omega) (by omega) (by omega) (by omega)) (fun h X1 hT hP => ?_)
      have hP1 := hP.1
      have hWm := wx_mv hW (show (s : Int) < nS X by omega) (show (c : Int) < nC X by omega) (show X 8 s c < 50 by omega)
      have hI2 : INV e ν (gv (mv X s c)) := INV_gv ⟨hWm, nv_kp hV kq_mv.1, SD_cg hS (mv_k (by decide) (by decide)) (mv_k (by decide) (by decide)) (mv_k (by decide) (by decide)) (fun c2 => by rw [mv_k (by decide) (by decide)]; exact ⟨rfl, rfl⟩), OFF_k hO (fun i hi => by rw [mv_k (by decide) (by decide)]), TLD_k hTL (mv_k (by decide) (by decide)) (mv_k (by decide) (by decide)) (mv_k (by decide) (by decide)) (mv_k (by decide) (by decide)) (fun k h1 h2 => mv_k (by omega) (by omega)), by unfold TMk; rw [mv_k (by decide) (by decide)]; exact hM, by rw [mv_k (by decide) (by decide)]; exact he⟩
      have e8 : X1 8 s c = 50 := by rw [hP1, gv_k (by decide) (by decide) (by decide), mv_8, if_pos ⟨rfl, rfl⟩]
      rw [← hP1] at hI2
      exact li_ret (b := (if 50 ≤ X 8 s c then -2 else if 12 < movd X s + X 12 c 1 then -3 else movd X s + X 12 c 1)) (by rw [if_neg q, if_neg q2]) hT ⟨rfl, rfl, hI2, fun _ _ => e8, by rw [hP1, gv_k (by decide) (by decide) (by decide), mv_k (by decide) (by decide)]⟩ rfl dL_moveIn_6
set_option maxRecDepth 100000 in
set_option maxHeartbeats 4000000 in
theorem c_L_enrolls {g : Gt} {α : AL} {ν : Nat → Nat → Bool} {X : XM} {h : AH} {e : Int} (hT : TR g α ν X h) (hI : INV e ν X) {s : Nat} (hs : s < 5) {c : Nat} (hc : c < 5)  : Al g M_L_enrolls 46 [.ref (α 0 0), .ref (α 40 0), .int (J (s : Int)), .int (J (c : Int))] h 802 5106 (some (.int (J (bi true)))) ((fun α' ν' X' => α' 0 0 = α 0 0 ∧ α' 40 0 = α 40 0 ∧ INV e ν' X')) := by
  refine ct_of_ev rfl rfl (ls := [some (.ref (α 0 0)), some (.ref (α 40 0)), some (.int (J (s : Int))), some (.int (J (c : Int))), none, none]) rfl (Nat.le_of_ble_eq_true rfl) ?_
  show Ev g M_L_enrolls 46 0 [some (.ref (α 0 0)), some (.ref (α 40 0)), some (.int (J (s : Int))), some (.int (J (c : Int))), none, none] [] h 802 5106 (AQ g (some (.int (J (bi true)))) ((fun α' ν' X' => α' 0 0 = α 0 0 ∧ α' 40 0 = α 40 0 ∧ INV e ν' X')))
  obtain ⟨⟨hW, hV, hS, hO, hTL, hM, he⟩, hN⟩ := id hI
  obtain ⟨eC, eS, eF⟩ := id hO
  have hlt := ltr_c X s c
  have hin := ltr_in X s c
  obtain ⟨L, hL⟩ : ∃ L, L = ltr X s c := ⟨_, rfl⟩
  obtain ⟨E, hE⟩ : ∃ E, E = (if ltr X s c = 97 then 114 else ltr X s c) := ⟨_, rfl⟩
  have hE2 : E = if L = 97 then 114 else L := by rw [hE, hL]
  rw [← hL] at hlt hin
  refine ev_ald1 1 dL_enrolls_0 rfl ?_
  refine ev_ald0 2 dL_enrolls_1 rfl ?_
  refine ev_ild2 3 dL_enrolls_2 rfl ?_
  refine ev_ild3 4 dL_enrolls_3 rfl ?_
  refine tp_V (2) (106) 7 14 dL_enrolls_4 lkv_L_144 (tr40 hT) rfl (c_X12_would hT hW hO hTL (by omega) (by omega)) (by first | decide | omega) rfl rfl (Nat.le_of_ble_eq_true rfl) rfl (by omega) (by omega) ?_
  rw [← hL]
  refine ev_ist4 9 dL_enrolls_7 rfl (by decide) rfl ?_
  refine ev_ald0 10 dL_enrolls_9 rfl ?_
  refine ev_ild2 11 dL_enrolls_10 rfl ?_
  refine ev_ild3 12 dL_enrolls_11 rfl ?_
  refine tl_SH (1) (6) 15 dL_enrolls_12 lh_L_164 (c_L_enroll hT hI (by omega) (by omega)) (by first | decide | omega) rfl rfl (Nat.le_of_ble_eq_true rfl) rfl (by omega) (by omega) (fun h α ν X hT hP12 => ?_)
  obtain ⟨f0, f40, hI, hz1, hz2⟩ := hP12
  rw [← f0, ← f40]
  obtain ⟨⟨hW, hV, hS, hO, hTL, hM, he⟩, hN⟩ := id hI
  obtain ⟨eC, eS, eF⟩ := id hO
  rw [← hE]
  rw [← hL] at hz1 hz2
  refine ev_ist5 17 dL_enrolls_15 rfl (by decide) rfl ?_
  refine ev_ild5 19 dL_enrolls_17 rfl ?_
  refine ev_ild4 21 dL_enrolls_19 rfl ?_
  refine tj_bipush 23 dL_enrolls_21 (by decide) rfl ?_
  refine tj_icmp_ne 31 26 dL_enrolls_23 (by decide) rfl (by first | exact TR.rng hT _ _ _ | exact R31_of _ | exact bi_R _ | assumption | (constructor <;> omega)) (by first | exact TR.rng hT _ _ _ | exact R31_of _ | exact bi_R _ | assumption | (constructor <;> omega)) (fun c23 => ?_) (fun c23 => ?_)
  · skip
    refine ev_ild4 33 dL_enrolls_31 rfl ?_
    refine tj_icmp_ne 72 36 dL_enrolls_33 (by decide) rfl (by first | exact TR.rng hT _ _ _ | exact R31_of _ | exact bi_R _ | assumption | (constructor <;> omega)) (by first | exact TR.rng hT _ _ _ | exact R31_of _ | exact bi_R _ | assumption | (constructor <;> omega)) (fun c33 => ?_) (fun c33 => ?_)
    · exact False.elim (by split at hE2 <;> omega)
    · skip
      refine ev_ild5 38 dL_enrolls_36 rfl ?_
      refine tj_bipush 40 dL_enrolls_38 (by decide) rfl ?_
      refine tj_icmp_ne 52 43 dL_enrolls_40 (by decide) rfl (by first | exact TR.rng hT _ _ _ | exact R31_of _ | exact bi_R _ | assumption | (constructor <;> omega)) (by first | exact TR.rng hT _ _ _ | exact R31_of _ | exact bi_R _ | assumption | (constructor <;> omega)) (fun c40 => ?_) (fun c40 => ?_)
      · skip
        refine ev_ild5 54 dL_enrolls_52 rfl ?_
        refine tj_bipush 56 dL_enrolls_54 (by decide) rfl ?_
        refine tj_icmp_ne 68 59 dL_enrolls_56 (by decide) rfl (by first | exact TR.rng hT _ _ _ | exact R31_of _ | exact bi_R _ | assumption | (constructor <;> omega)) (by first | exact TR.rng hT _ _ _ | exact R31_of _ | exact bi_R _ | assumption | (constructor <;> omega)) (fun c56 => ?_) (fun c56 => ?_)
        · skip
          refine tj_iconst 69 dL_enrolls_68 rfl ?_
          refine ev_goto 73 dL_enrolls_69 (by decide) ?_
          exact lz_ret (p := true) (by first | rfl | omega | exact bi_dt (by omega) | exact bi_df (by omega) | (rfl)) hT (by exact ⟨rfl, rfl, hI⟩) rfl dL_enrolls_73
        · skip
          refine ev_ald0 60 dL_enrolls_59 rfl ?_
          refine ev_ild2 61 dL_enrolls_60 rfl ?_
          refine ev_ild3 62 dL_enrolls_61 rfl ?_
          refine tp_SH (0) (0) 65 dL_enrolls_62 lh_L_151 (c_L_place hT hW hO (by omega) (by omega)) (by first | decide | omega) rfl rfl (Nat.le_of_ble_eq_true rfl) rfl (by omega) (by omega) ?_
          have hpR := place_R hW.1 (show (c : Int) < nC X by omega) s
          refine tj_if_lt 72 68 dL_enrolls_65 (by decide) rfl (by first | exact TR.rng hT _ _ _ | exact R31_of _ | exact bi_R _ | assumption | (constructor <;> omega)) (fun c65 => ?_) (fun c65 => ?_)
          · exact False.elim (by have := hz2 (by split at hE2 <;> omega); have := place_R hW.1 (show (c : Int) < nC X by omega) s; omega)
          · skip
            refine tj_iconst 69 dL_enrolls_68 rfl ?_
            refine ev_goto 73 dL_enrolls_69 (by decide) ?_
            exact lz_ret (p := true) (by first | rfl | omega | exact bi_dt (by omega) | exact bi_df (by omega) | (rfl)) hT (by exact ⟨rfl, rfl, hI⟩) rfl dL_enrolls_73
      · skip
        refine ev_ald0 44 dL_enrolls_43 rfl ?_
        refine ev_ild2 45 dL_enrolls_44 rfl ?_
        refine ev_ild3 46 dL_enrolls_45 rfl ?_
        refine tc_V2 49 13 dL_enrolls_46 lkv_L_154 (tr0 hT) rfl rfl (by first | decide | omega) (Nat.le_of_ble_eq_true rfl) (c_X11_isEnrolled_ok hT hW (by omega) (by omega)) ?_
        refine tb_if_eq 72 52 dL_enrolls_49 (by decide) rfl (fun c49 => ?_) (fun c49 => ?_)
        · exact False.elim (by rw [hz1 (by split at hE2 <;> omega)] at c49; cases c49)
        · skip
          refine ev_ild5 54 dL_enrolls_52 rfl ?_
          refine tj_bipush 56 dL_enrolls_54 (by decide) rfl ?_
          refine tj_icmp_ne 68 59 dL_enrolls_56 (by decide) rfl (by first | exact TR.rng hT _ _ _ | exact R31_of _ | exact bi_R _ | assumption | (constructor <;> omega)) (by first | exact TR.rng hT _ _ _ | exact R31_of _ | exact bi_R _ | assumption | (constructor <;> omega)) (fun c56 => ?_) (fun c56 => ?_)
          · skip
            refine tj_iconst 69 dL_enrolls_68 rfl ?_
            refine ev_goto 73 dL_enrolls_69 (by decide) ?_
            exact lz_ret (p := true) (by first | rfl | omega | exact bi_dt (by omega) | exact bi_df (by omega) | (rfl)) hT (by exact ⟨rfl, rfl, hI⟩) rfl dL_enrolls_73
          · skip
            refine ev_ald0 60 dL_enrolls_59 rfl ?_
            refine ev_ild2 61 dL_enrolls_60 rfl ?_
            refine ev_ild3 62 dL_enrolls_61 rfl ?_
            refine tp_SH (0) (0) 65 dL_enrolls_62 lh_L_151 (c_L_place hT hW hO (by omega) (by omega)) (by first | decide | omega) rfl rfl (Nat.le_of_ble_eq_true rfl) rfl (by omega) (by omega) ?_
            have hpR := place_R hW.1 (show (c : Int) < nC X by omega) s
            refine tj_if_lt 72 68 dL_enrolls_65 (by decide) rfl (by first | exact TR.rng hT _ _ _ | exact R31_of _ | exact bi_R _ | assumption | (constructor <;> omega)) (fun c65 => ?_) (fun c65 => ?_)
            · exact False.elim (by have := hz2 (by split at hE2 <;> omega); have := place_R hW.1 (show (c : Int) < nC X by omega) s; omega)
            · skip
              refine tj_iconst 69 dL_enrolls_68 rfl ?_
              refine ev_goto 73 dL_enrolls_69 (by decide) ?_
              exact lz_ret (p := true) (by first | rfl | omega | exact bi_dt (by omega) | exact bi_df (by omega) | (rfl)) hT (by exact ⟨rfl, rfl, hI⟩) rfl dL_enrolls_73
  · skip
    refine tj_bipush 28 dL_enrolls_26 (by decide) rfl ?_
    refine ev_goto 33 dL_enrolls_28 (by decide) ?_
    refine tj_icmp_ne 72 36 dL_enrolls_33 (by decide) rfl (by first | exact TR.rng hT _ _ _ | exact R31_of _ | exact bi_R _ | assumption | (constructor <;> omega)) (by first | exact TR.rng hT _ _ _ | exact R31_of _ | exact bi_R _ | assumption | (constructor <;> omega)) (fun c33 => ?_) (fun c33 => ?_)
    · exact False.elim (by split at hE2 <;> omega)
    · skip
      refine ev_ild5 38 dL_enrolls_36 rfl ?_
      refine tj_bipush 40 dL_enrolls_38 (by decide) rfl ?_
      refine tj_icmp_ne 52 43 dL_enrolls_40 (by decide) rfl (by first | exact TR.rng hT _ _ _ | exact R31_of _ | exact bi_R _ | assumption | (constructor <;> omega)) (by first | exact TR.rng hT _ _ _ | exact R31_of _ | exact bi_R _ | assumption | (constructor <;> omega)) (fun c40 => ?_) (fun c40 => ?_)
      · skip
        refine ev_ild5 54 dL_enrolls_52 rfl ?_
        refine tj_bipush 56 dL_enrolls_54 (by decide) rfl ?_
        refine tj_icmp_ne 68 59 dL_enrolls_56 (by decide) rfl (by first | exact TR.rng hT _ _ _ | exact R31_of _ | exact bi_R _ | assumption | (constructor <;> omega)) (by first | exact TR.rng hT _ _ _ | exact R31_of _ | exact bi_R _ | assumption | (constructor <;> omega)) (fun c56 => ?_) (fun c56 => ?_)
        · skip
          refine tj_iconst 69 dL_enrolls_68 rfl ?_
          refine ev_goto 73 dL_enrolls_69 (by decide) ?_
          exact lz_ret (p := true) (by first | rfl | omega | exact bi_dt (by omega) | exact bi_df (by omega) | (rfl)) hT (by exact ⟨rfl, rfl, hI⟩) rfl dL_enrolls_73
        · skip
          refine ev_ald0 60 dL_enrolls_59 rfl ?_
          refine ev_ild2 61 dL_enrolls_60 rfl ?_
          refine ev_ild3 62 dL_enrolls_61 rfl ?_
          refine tp_SH (0) (0) 65 dL_enrolls_62 lh_L_151 (c_L_place hT hW hO (by omega) (by omega)) (by first | decide | omega) rfl rfl (Nat.le_of_ble_eq_true rfl) rfl (by omega) (by omega) ?_
          have hpR := place_R hW.1 (show (c : Int) < nC X by omega) s
          refine tj_if_lt 72 68 dL_enrolls_65 (by decide) rfl (by first | exact TR.rng hT _ _ _ | exact R31_of _ | exact bi_R _ | assumption | (constructor <;> omega)) (fun c65 => ?_) (fun c65 => ?_)
          · exact False.elim (by have := hz2 (by split at hE2 <;> omega); have := place_R hW.1 (show (c : Int) < nC X by omega) s; omega)
          · skip
            refine tj_iconst 69 dL_enrolls_68 rfl ?_
            refine ev_goto 73 dL_enrolls_69 (by decide) ?_
            exact lz_ret (p := true) (by first | rfl | omega | exact bi_dt (by omega) | exact bi_df (by omega) | (rfl)) hT (by exact ⟨rfl, rfl, hI⟩) rfl dL_enrolls_73
      · skip
        refine ev_ald0 44 dL_enrolls_43 rfl ?_
        refine ev_ild2 45 dL_enrolls_44 rfl ?_
        refine ev_ild3 46 dL_enrolls_45 rfl ?_
        refine tc_V2 49 13 dL_enrolls_46 lkv_L_154 (tr0 hT) rfl rfl (by first | decide | omega) (Nat.le_of_ble_eq_true rfl) (c_X11_isEnrolled_ok hT hW (by omega) (by omega)) ?_
        refine tb_if_eq 72 52 dL_enrolls_49 (by decide) rfl (fun c49 => ?_) (fun c49 => ?_)
        · exact False.elim (by rw [hz1 (by split at hE2 <;> omega)] at c49; cases c49)
        · skip
          refine ev_ild5 54 dL_enrolls_52 rfl ?_
          refine tj_bipush 56 dL_enrolls_54 (by decide) rfl ?_
          refine tj_icmp_ne 68 59 dL_enrolls_56 (by decide) rfl (by first | exact TR.rng hT _ _ _ | exact R31_of _ | exact bi_R _ | assumption | (constructor <;> omega)) (by first | exact TR.rng hT _ _ _ | exact R31_of _ | exact bi_R _ | assumption | (constructor <;> omega)) (fun c56 => ?_) (fun c56 => ?_)
          · skip
            refine tj_iconst 69 dL_enrolls_68 rfl ?_
            refine ev_goto 73 dL_enrolls_69 (by decide) ?_
            exact lz_ret (p := true) (by first | rfl | omega | exact bi_dt (by omega) | exact bi_df (by omega) | (rfl)) hT (by exact ⟨rfl, rfl, hI⟩) rfl dL_enrolls_73
          · skip
            refine ev_ald0 60 dL_enrolls_59 rfl ?_
            refine ev_ild2 61 dL_enrolls_60 rfl ?_
            refine ev_ild3 62 dL_enrolls_61 rfl ?_
            refine tp_SH (0) (0) 65 dL_enrolls_62 lh_L_151 (c_L_place hT hW hO (by omega) (by omega)) (by first | decide | omega) rfl rfl (Nat.le_of_ble_eq_true rfl) rfl (by omega) (by omega) ?_
            have hpR := place_R hW.1 (show (c : Int) < nC X by omega) s
            refine tj_if_lt 72 68 dL_enrolls_65 (by decide) rfl (by first | exact TR.rng hT _ _ _ | exact R31_of _ | exact bi_R _ | assumption | (constructor <;> omega)) (fun c65 => ?_) (fun c65 => ?_)
            · exact False.elim (by have := hz2 (by split at hE2 <;> omega); have := place_R hW.1 (show (c : Int) < nC X by omega) s; omega)
            · skip
              refine tj_iconst 69 dL_enrolls_68 rfl ?_
              refine ev_goto 73 dL_enrolls_69 (by decide) ?_
              exact lz_ret (p := true) (by first | rfl | omega | exact bi_dt (by omega) | exact bi_df (by omega) | (rfl)) hT (by exact ⟨rfl, rfl, hI⟩) rfl dL_enrolls_73
