/-! THE LAW: its loop, its entry -/
abbrev M_L_law : Mt := (yL_law, cL_law, 6, ret, [])
theorem ev_ifnull {g : Gt} {M : Mt} {d pc : Nat} {ls : List (Option Value)} {st : List Value} {h : AH} {mc ms : Nat} {Q : RT → AH → Prop} {v : Nat} {off : Int} (n : Nat) (hd : decode (mC M) pc = .ok (.ifnull off, 3)) (hn : pc + 3 = n) (k : Ev g M d n ls st h mc ms Q) : Ev g M d pc ls (.ref v :: st) h mc ms Q := by
  subst hn
  intro p e s m args below meth c H locs cells slots lsA tc ts hM hS hL h1 h2
  exact lv_ifnull hM.1 hM.2.1 hd (k p e s m args below meth c H locs cells slots lsA tc ts hM hS hL h1 h2)
set_option maxRecDepth 100000 in
set_option maxHeartbeats 4000000 in
theorem L_law14 {g : Gt} {α : AL} {ν : Nat → Nat → Bool} {X : XM} {h : AH} {Q : RT → AH → Prop} (hl : (gX g).2.1 ≤ 260) (hT : TR g α ν X h) (hI : INV 0 ν X) (hQ : ∀ h', Q (.inl (some (.int (J 1)))) h') : Ev g M_L_law 2048 14 [some (.ref (gX g).1), some (.ref (α 0 0)), some (.ref (α 40 0)), none, none, none] [] h 273044 1661264 Q := by
  refine ev_ald2 15 dL_law_14 rfl ?_
  refine ev_ifnull 18 dL_law_15 rfl ?_
  refine ev_ald1 19 dL_law_18 rfl ?_
  refine ev_ald2 20 dL_law_19 rfl ?_
  refine ev_ald0 21 dL_law_20 rfl ?_
  refine tj_bipush 23 dL_law_21 (by decide) rfl ?_
  refine ly_cell (15) 26 hl dL_law_23 lks_L_44 (by omega) (by omega) rfl (by first | decide | omega) (Nat.le_of_ble_eq_true rfl) (fun x23 => ?_)
  refine tp_S (264660) (1609960) 29 dL_law_26 lks_L_211 (c_L_agrees hT hI.1.1 hI.1.2.2.2.1 hI.1.2.2.2.2.1 hI.1.2.2.1 hI.2) (by first | decide | omega) rfl rfl (Nat.le_of_ble_eq_true rfl) rfl (by omega) (by omega) ?_
  refine tb_if_ne 34 32 dL_law_29 (by decide) rfl (fun c29 => ?_) (fun c29 => ?_)
  · skip
    refine tj_iconst 35 dL_law_34 rfl ?_
    refine ev_ist3 36 dL_law_35 rfl (by decide) rfl ?_
    have lp36 : ∀ (n36 : Nat) (e : Nat) (z3 : Int) (o4 o5 : Option Value) (h : AH) (α : AL) (ν : Nat → Nat → Bool) (X : XM), 23 - e < n36 → TR g α ν X h → (e ≤ 22) → (INV (e : Int) ν X) → z3 = (e : Int) → Ev g M_L_law 2048 36 [some (.ref (gX g).1), some (.ref (α 0 0)), some (.ref (α 40 0)), some (.int (J z3)), o4, o5] [] h (12030 * (22 - e)) (73180 * (22 - e)) Q := by
      intro n36
      induction n36 with
      | zero => intro e z3 o4 o5 h α ν X hm; exact absurd hm (Nat.not_lt_zero _)
      | succ n36 ih36 =>
        intro e z3 o4 o5 h α ν X hm36 hT he hI e3
        subst e3
        refine ev_ild3 37 dL_law_36 rfl ?_
        refine tj_bipush 39 dL_law_37 (by decide) rfl ?_
        refine tj_icmp_ge 201 42 dL_law_39 (by decide) rfl (by first | exact TR.rng hT _ _ _ | exact R31_of _ | exact bi_R _ | assumption | (constructor <;> omega)) (by first | exact TR.rng hT _ _ _ | exact R31_of _ | exact bi_R _ | assumption | (constructor <;> omega)) (fun c39 => ?_) (fun c39 => ?_)
        · skip
          refine ev_ald1 202 dL_law_201 rfl ?_
          refine tm_V0 205 13 dL_law_202 lkv_L_228 (tr0 hT) rfl rfl (by first | decide | omega) (Nat.le_of_ble_eq_true rfl) (c_X11_isSound hT hI.1.1) (fun h X2 hT hP => ?_)
          rw [sndV_t (snd_of hI.1.2.2.1 hI.2)]
          exact ev_zreturn (ty := .boolean) (hQ h) rfl rfl dL_law_205
        · skip
          refine ev_ald0 43 dL_law_42 rfl ?_
          refine tj_bipush 45 dL_law_43 (by decide) rfl ?_
          refine ev_ild3 46 dL_law_45 rfl ?_
          refine tj_iadd 47 dL_law_46 rfl ?_
          refine ly_cell ((16 + e)) 50 hl dL_law_47 lks_L_44 (by omega) (by omega) rfl (by first | decide | omega) (Nat.le_of_ble_eq_true rfl) (fun x47 => ?_)
          refine ev_ist4 52 dL_law_50 rfl (by decide) rfl ?_
          refine ev_ild4 54 dL_law_52 rfl ?_
          refine tj_bipush 56 dL_law_54 (by decide) rfl ?_
          refine ly_low (8) 59 dL_law_56 lks_L_50 (by omega) (by omega) (by omega) rfl (by first | decide | omega) (Nat.le_of_ble_eq_true rfl) (fun r56 hr56 => ?_)
          rcases (show (r56 : Int) = 0 ∨ (r56 : Int) = 1 ∨ (r56 : Int) = 2 ∨ (r56 : Int) = 3 ∨ (r56 : Int) = 4 ∨ (r56 : Int) = 5 ∨ (r56 : Int) = 6 ∨ (r56 : Int) = 7 by omega) with c59 | c59 | c59 | c59 | c59 | c59 | c59 | c59
          · skip
            refine ev_tswIn 0 96 dL_law_59 (by omega) rfl (by decide) (by first | exact TR.rng hT _ _ _ | exact R31_of _ | exact bi_R _ | assumption | (constructor <;> omega)) (by decide) ?_
            refine ev_ald1 97 dL_law_96 rfl ?_
            refine ev_ald2 98 dL_law_97 rfl ?_
            refine ev_ild4 100 dL_law_98 rfl ?_
            refine tj_iconst 101 dL_law_100 rfl ?_
            refine ev_ishr 102 dL_law_101 rfl ?_
            refine tj_iconst 103 dL_law_102 rfl ?_
            refine ly_low (5) 106 dL_law_103 lks_L_50 (by omega) (by omega) (by omega) rfl (by first | decide | omega) (Nat.le_of_ble_eq_true rfl) (fun r103 hr103 => ?_)
            refine ev_ild4 108 dL_law_106 rfl ?_
            refine tj_bipush 110 dL_law_108 (by decide) rfl ?_
            refine ev_ishr 111 dL_law_110 rfl ?_
            refine tj_iconst 112 dL_law_111 rfl ?_
            refine ly_low (5) 115 dL_law_112 lks_L_50 (by omega) (by omega) (by omega) rfl (by first | decide | omega) (Nat.le_of_ble_eq_true rfl) (fun r112 hr112 => ?_)
            refine tl_S (11228 + (12030 * (22 - (e + 1)))) (68074 + (73180 * (22 - (e + 1)))) 118 dL_law_115 lks_L_215 (c_L_enrolls hT hI (by omega) (by omega)) (by first | decide | omega) rfl rfl (Nat.le_of_ble_eq_true rfl) rfl (by omega) (by omega) (fun h α ν X hT hP115 => ?_)
            obtain ⟨f0, f40, hI⟩ := hP115
            rw [← f0, ← f40]
            refine ev_ist5 120 dL_law_118 rfl (by decide) rfl ?_
            refine ev_goto 175 dL_law_120 (by decide) ?_
            refine ev_ild5 177 dL_law_175 rfl ?_
            refine tb_if_eq 193 180 dL_law_177 (by decide) rfl (fun c177 => ?_) (fun c177 => ?_)
            · exact False.elim (by cases c177)
            · skip
              refine ev_ald1 181 dL_law_180 rfl ?_
              refine ev_ald2 182 dL_law_181 rfl ?_
              refine ev_ild4 184 dL_law_182 rfl ?_
              refine tj_bipush 186 dL_law_184 (by decide) rfl ?_
              refine ev_ishr 187 dL_law_186 rfl ?_
              refine tp_S (2844 + (12030 * (22 - (e + 1)))) (16770 + (73180 * (22 - (e + 1)))) 190 dL_law_187 lks_L_211 (c_L_agrees hT hI.1.1 hI.1.2.2.2.1 hI.1.2.2.2.2.1 hI.1.2.2.1 hI.2) (by first | decide | omega) rfl rfl (Nat.le_of_ble_eq_true rfl) rfl (by omega) (by omega) ?_
              refine tb_if_ne 195 193 dL_law_190 (by decide) rfl (fun c190 => ?_) (fun c190 => ?_)
              · skip
                have hI1 : INV ((e + 1 : Nat) : Int) ν X := ⟨PRE_e hI.1 (by omega), hI.2⟩
                refine tj_inc3 198 dL_law_195 rfl (by decide) rfl ?_
                refine ev_goto 36 dL_law_198 (by decide) ?_
                exact ev_mono (by omega) (by omega) (ih36 (e + 1) _ _ _ _ _ _ _ (by omega) hT (by first | omega | assumption | omega) (by first | omega | assumption | omega) (by first | rfl | omega | (omega)))
              · exact False.elim (by cases c190)
          · skip
            refine ev_tswIn 1 96 dL_law_59 (by omega) rfl (by decide) (by first | exact TR.rng hT _ _ _ | exact R31_of _ | exact bi_R _ | assumption | (constructor <;> omega)) (by decide) ?_
            refine ev_ald1 97 dL_law_96 rfl ?_
            refine ev_ald2 98 dL_law_97 rfl ?_
            refine ev_ild4 100 dL_law_98 rfl ?_
            refine tj_iconst 101 dL_law_100 rfl ?_
            refine ev_ishr 102 dL_law_101 rfl ?_
            refine tj_iconst 103 dL_law_102 rfl ?_
            refine ly_low (5) 106 dL_law_103 lks_L_50 (by omega) (by omega) (by omega) rfl (by first | decide | omega) (Nat.le_of_ble_eq_true rfl) (fun r103 hr103 => ?_)
            refine ev_ild4 108 dL_law_106 rfl ?_
            refine tj_bipush 110 dL_law_108 (by decide) rfl ?_
            refine ev_ishr 111 dL_law_110 rfl ?_
            refine tj_iconst 112 dL_law_111 rfl ?_
            refine ly_low (5) 115 dL_law_112 lks_L_50 (by omega) (by omega) (by omega) rfl (by first | decide | omega) (Nat.le_of_ble_eq_true rfl) (fun r112 hr112 => ?_)
            refine tl_S (11228 + (12030 * (22 - (e + 1)))) (68074 + (73180 * (22 - (e + 1)))) 118 dL_law_115 lks_L_215 (c_L_enrolls hT hI (by omega) (by omega)) (by first | decide | omega) rfl rfl (Nat.le_of_ble_eq_true rfl) rfl (by omega) (by omega) (fun h α ν X hT hP115 => ?_)
            obtain ⟨f0, f40, hI⟩ := hP115
            rw [← f0, ← f40]
            refine ev_ist5 120 dL_law_118 rfl (by decide) rfl ?_
            refine ev_goto 175 dL_law_120 (by decide) ?_
            refine ev_ild5 177 dL_law_175 rfl ?_
            refine tb_if_eq 193 180 dL_law_177 (by decide) rfl (fun c177 => ?_) (fun c177 => ?_)
            · exact False.elim (by cases c177)
            · skip
              refine ev_ald1 181 dL_law_180 rfl ?_
              refine ev_ald2 182 dL_law_181 rfl ?_
              refine ev_ild4 184 dL_law_182 rfl ?_
              refine tj_bipush 186 dL_law_184 (by decide) rfl ?_
              refine ev_ishr 187 dL_law_186 rfl ?_
              refine tp_S (2844 + (12030 * (22 - (e + 1)))) (16770 + (73180 * (22 - (e + 1)))) 190 dL_law_187 lks_L_211 (c_L_agrees hT hI.1.1 hI.1.2.2.2.1 hI.1.2.2.2.2.1 hI.1.2.2.1 hI.2) (by first | decide | omega) rfl rfl (Nat.le_of_ble_eq_true rfl) rfl (by omega) (by omega) ?_
              refine tb_if_ne 195 193 dL_law_190 (by decide) rfl (fun c190 => ?_) (fun c190 => ?_)
              · skip
                have hI1 : INV ((e + 1 : Nat) : Int) ν X := ⟨PRE_e hI.1 (by omega), hI.2⟩
                refine tj_inc3 198 dL_law_195 rfl (by decide) rfl ?_
                refine ev_goto 36 dL_law_198 (by decide) ?_
                exact ev_mono (by omega) (by omega) (ih36 (e + 1) _ _ _ _ _ _ _ (by omega) hT (by first | omega | assumption | omega) (by first | omega | assumption | omega) (by first | rfl | omega | (omega)))
              · exact False.elim (by cases c190)
          · skip
            refine ev_tswIn 2 96 dL_law_59 (by omega) rfl (by decide) (by first | exact TR.rng hT _ _ _ | exact R31_of _ | exact bi_R _ | assumption | (constructor <;> omega)) (by decide) ?_
            refine ev_ald1 97 dL_law_96 rfl ?_
            refine ev_ald2 98 dL_law_97 rfl ?_
            refine ev_ild4 100 dL_law_98 rfl ?_
            refine tj_iconst 101 dL_law_100 rfl ?_
            refine ev_ishr 102 dL_law_101 rfl ?_
            refine tj_iconst 103 dL_law_102 rfl ?_
            refine ly_low (5) 106 dL_law_103 lks_L_50 (by omega) (by omega) (by omega) rfl (by first | decide | omega) (Nat.le_of_ble_eq_true rfl) (fun r103 hr103 => ?_)
            refine ev_ild4 108 dL_law_106 rfl ?_
            refine tj_bipush 110 dL_law_108 (by decide) rfl ?_
            refine ev_ishr 111 dL_law_110 rfl ?_
            refine tj_iconst 112 dL_law_111 rfl ?_
            refine ly_low (5) 115 dL_law_112 lks_L_50 (by omega) (by omega) (by omega) rfl (by first | decide | omega) (Nat.le_of_ble_eq_true rfl) (fun r112 hr112 => ?_)
            refine tl_S (11228 + (12030 * (22 - (e + 1)))) (68074 + (73180 * (22 - (e + 1)))) 118 dL_law_115 lks_L_215 (c_L_enrolls hT hI (by omega) (by omega)) (by first | decide | omega) rfl rfl (Nat.le_of_ble_eq_true rfl) rfl (by omega) (by omega) (fun h α ν X hT hP115 => ?_)
            obtain ⟨f0, f40, hI⟩ := hP115
            rw [← f0, ← f40]
            refine ev_ist5 120 dL_law_118 rfl (by decide) rfl ?_
            refine ev_goto 175 dL_law_120 (by decide) ?_
            refine ev_ild5 177 dL_law_175 rfl ?_
            refine tb_if_eq 193 180 dL_law_177 (by decide) rfl (fun c177 => ?_) (fun c177 => ?_)
            · exact False.elim (by cases c177)
            · skip
              refine ev_ald1 181 dL_law_180 rfl ?_
              refine ev_ald2 182 dL_law_181 rfl ?_
              refine ev_ild4 184 dL_law_182 rfl ?_
              refine tj_bipush 186 dL_law_184 (by decide) rfl ?_
              refine ev_ishr 187 dL_law_186 rfl ?_
              refine tp_S (2844 + (12030 * (22 - (e + 1)))) (16770 + (73180 * (22 - (e + 1)))) 190 dL_law_187 lks_L_211 (c_L_agrees hT hI.1.1 hI.1.2.2.2.1 hI.1.2.2.2.2.1 hI.1.2.2.1 hI.2) (by first | decide | omega) rfl rfl (Nat.le_of_ble_eq_true rfl) rfl (by omega) (by omega) ?_
              refine tb_if_ne 195 193 dL_law_190 (by decide) rfl (fun c190 => ?_) (fun c190 => ?_)
              · skip
                have hI1 : INV ((e + 1 : Nat) : Int) ν X := ⟨PRE_e hI.1 (by omega), hI.2⟩
                refine tj_inc3 198 dL_law_195 rfl (by decide) rfl ?_
                refine ev_goto 36 dL_law_198 (by decide) ?_
                exact ev_mono (by omega) (by omega) (ih36 (e + 1) _ _ _ _ _ _ _ (by omega) hT (by first | omega | assumption | omega) (by first | omega | assumption | omega) (by first | rfl | omega | (omega)))
              · exact False.elim (by cases c190)
          · skip
            refine ev_tswIn 3 96 dL_law_59 (by omega) rfl (by decide) (by first | exact TR.rng hT _ _ _ | exact R31_of _ | exact bi_R _ | assumption | (constructor <;> omega)) (by decide) ?_
            refine ev_ald1 97 dL_law_96 rfl ?_
            refine ev_ald2 98 dL_law_97 rfl ?_
            refine ev_ild4 100 dL_law_98 rfl ?_
            refine tj_iconst 101 dL_law_100 rfl ?_
            refine ev_ishr 102 dL_law_101 rfl ?_
            refine tj_iconst 103 dL_law_102 rfl ?_
            refine ly_low (5) 106 dL_law_103 lks_L_50 (by omega) (by omega) (by omega) rfl (by first | decide | omega) (Nat.le_of_ble_eq_true rfl) (fun r103 hr103 => ?_)
            refine ev_ild4 108 dL_law_106 rfl ?_
            refine tj_bipush 110 dL_law_108 (by decide) rfl ?_
            refine ev_ishr 111 dL_law_110 rfl ?_
            refine tj_iconst 112 dL_law_111 rfl ?_
            refine ly_low (5) 115 dL_law_112 lks_L_50 (by omega) (by omega) (by omega) rfl (by first | decide | omega) (Nat.le_of_ble_eq_true rfl) (fun r112 hr112 => ?_)
            refine tl_S (11228 + (12030 * (22 - (e + 1)))) (68074 + (73180 * (22 - (e + 1)))) 118 dL_law_115 lks_L_215 (c_L_enrolls hT hI (by omega) (by omega)) (by first | decide | omega) rfl rfl (Nat.le_of_ble_eq_true rfl) rfl (by omega) (by omega) (fun h α ν X hT hP115 => ?_)
            obtain ⟨f0, f40, hI⟩ := hP115
            rw [← f0, ← f40]
            refine ev_ist5 120 dL_law_118 rfl (by decide) rfl ?_
            refine ev_goto 175 dL_law_120 (by decide) ?_
            refine ev_ild5 177 dL_law_175 rfl ?_
            refine tb_if_eq 193 180 dL_law_177 (by decide) rfl (fun c177 => ?_) (fun c177 => ?_)
            · exact False.elim (by cases c177)
            · skip
              refine ev_ald1 181 dL_law_180 rfl ?_
              refine ev_ald2 182 dL_law_181 rfl ?_
              refine ev_ild4 184 dL_law_182 rfl ?_
              refine tj_bipush 186 dL_law_184 (by decide) rfl ?_
              refine ev_ishr 187 dL_law_186 rfl ?_
              refine tp_S (2844 + (12030 * (22 - (e + 1)))) (16770 + (73180 * (22 - (e + 1)))) 190 dL_law_187 lks_L_211 (c_L_agrees hT hI.1.1 hI.1.2.2.2.1 hI.1.2.2.2.2.1 hI.1.2.2.1 hI.2) (by first | decide | omega) rfl rfl (Nat.le_of_ble_eq_true rfl) rfl (by omega) (by omega) ?_
              refine tb_if_ne 195 193 dL_law_190 (by decide) rfl (fun c190 => ?_) (fun c190 => ?_)
              · skip
                have hI1 : INV ((e + 1 : Nat) : Int) ν X := ⟨PRE_e hI.1 (by omega), hI.2⟩
                refine tj_inc3 198 dL_law_195 rfl (by decide) rfl ?_
                refine ev_goto 36 dL_law_198 (by decide) ?_
                exact ev_mono (by omega) (by omega) (ih36 (e + 1) _ _ _ _ _ _ _ (by omega) hT (by first | omega | assumption | omega) (by first | omega | assumption | omega) (by first | rfl | omega | (omega)))
              · exact False.elim (by cases c190)
          · skip
            refine ev_tswIn 4 123 dL_law_59 (by omega) rfl (by decide) (by first | exact TR.rng hT _ _ _ | exact R31_of _ | exact bi_R _ | assumption | (constructor <;> omega)) (by decide) ?_
            refine ev_ald1 124 dL_law_123 rfl ?_
            refine ev_ald2 125 dL_law_124 rfl ?_
            refine ev_ild4 127 dL_law_125 rfl ?_
            refine tj_iconst 128 dL_law_127 rfl ?_
            refine ev_ishr 129 dL_law_128 rfl ?_
            refine tj_iconst 130 dL_law_129 rfl ?_
            refine ly_low (5) 133 dL_law_130 lks_L_50 (by omega) (by omega) (by omega) rfl (by first | decide | omega) (Nat.le_of_ble_eq_true rfl) (fun r130 hr130 => ?_)
            refine ev_ild4 135 dL_law_133 rfl ?_
            refine tj_bipush 137 dL_law_135 (by decide) rfl ?_
            refine ev_ishr 138 dL_law_137 rfl ?_
            refine tj_iconst 139 dL_law_138 rfl ?_
            refine ly_low (5) 142 dL_law_139 lks_L_50 (by omega) (by omega) (by omega) rfl (by first | decide | omega) (Nat.le_of_ble_eq_true rfl) (fun r139 hr139 => ?_)
            refine tl_S (8384 + (12030 * (22 - (e + 1)))) (51304 + (73180 * (22 - (e + 1)))) 145 dL_law_142 lks_L_219 (c_L_drops hT hI (by omega) (by omega)) (by first | decide | omega) rfl rfl (Nat.le_of_ble_eq_true rfl) rfl (by omega) (by omega) (fun h α ν X hT hP142 => ?_)
            obtain ⟨f0, f40, hI⟩ := hP142
            rw [← f0, ← f40]
            refine ev_ist5 147 dL_law_145 rfl (by decide) rfl ?_
            refine ev_goto 175 dL_law_147 (by decide) ?_
            refine ev_ild5 177 dL_law_175 rfl ?_
            refine tb_if_eq 193 180 dL_law_177 (by decide) rfl (fun c177 => ?_) (fun c177 => ?_)
            · exact False.elim (by cases c177)
            · skip
              refine ev_ald1 181 dL_law_180 rfl ?_
              refine ev_ald2 182 dL_law_181 rfl ?_
              refine ev_ild4 184 dL_law_182 rfl ?_
              refine tj_bipush 186 dL_law_184 (by decide) rfl ?_
              refine ev_ishr 187 dL_law_186 rfl ?_
              refine tp_S (12030 * (22 - (e + 1))) (73180 * (22 - (e + 1))) 190 dL_law_187 lks_L_211 (c_L_agrees hT hI.1.1 hI.1.2.2.2.1 hI.1.2.2.2.2.1 hI.1.2.2.1 hI.2) (by first | decide | omega) rfl rfl (Nat.le_of_ble_eq_true rfl) rfl (by omega) (by omega) ?_
              refine tb_if_ne 195 193 dL_law_190 (by decide) rfl (fun c190 => ?_) (fun c190 => ?_)
              · skip
                have hI1 : INV ((e + 1 : Nat) : Int) ν X := ⟨PRE_e hI.1 (by omega), hI.2⟩
                refine tj_inc3 198 dL_law_195 rfl (by decide) rfl ?_
                refine ev_goto 36 dL_law_198 (by decide) ?_
                exact ev_mono (by omega) (by omega) (ih36 (e + 1) _ _ _ _ _ _ _ (by omega) hT (by first | omega | assumption | omega) (by first | omega | assumption | omega) (by first | rfl | omega | (omega)))
              · exact False.elim (by cases c190)
          · skip
            refine ev_tswIn 5 150 dL_law_59 (by omega) rfl (by decide) (by first | exact TR.rng hT _ _ _ | exact R31_of _ | exact bi_R _ | assumption | (constructor <;> omega)) (by decide) ?_
            refine ev_ald1 151 dL_law_150 rfl ?_
            refine ev_ald2 152 dL_law_151 rfl ?_
            refine ev_ild4 154 dL_law_152 rfl ?_
            refine tj_iconst 155 dL_law_154 rfl ?_
            refine ev_ishr 156 dL_law_155 rfl ?_
            refine tl_S (12029 + (12030 * (22 - (e + 1)))) (73175 + (73180 * (22 - (e + 1)))) 159 dL_law_156 lks_L_222 (c_L_ends hT hI (by omega)) (by first | decide | omega) rfl rfl (Nat.le_of_ble_eq_true rfl) rfl (by omega) (by omega) (fun h α ν X hT hP156 => ?_)
            obtain ⟨f0, f40, hI⟩ := hP156
            rw [← f0, ← f40]
            refine ev_ist5 161 dL_law_159 rfl (by decide) rfl ?_
            refine ev_goto 175 dL_law_161 (by decide) ?_
            refine ev_ild5 177 dL_law_175 rfl ?_
            refine tb_if_eq 193 180 dL_law_177 (by decide) rfl (fun c177 => ?_) (fun c177 => ?_)
            · exact False.elim (by cases c177)
            · skip
              refine ev_ald1 181 dL_law_180 rfl ?_
              refine ev_ald2 182 dL_law_181 rfl ?_
              refine ev_ild4 184 dL_law_182 rfl ?_
              refine tj_bipush 186 dL_law_184 (by decide) rfl ?_
              refine ev_ishr 187 dL_law_186 rfl ?_
              refine tp_S (3645 + (12030 * (22 - (e + 1)))) (21871 + (73180 * (22 - (e + 1)))) 190 dL_law_187 lks_L_211 (c_L_agrees hT hI.1.1 hI.1.2.2.2.1 hI.1.2.2.2.2.1 hI.1.2.2.1 hI.2) (by first | decide | omega) rfl rfl (Nat.le_of_ble_eq_true rfl) rfl (by omega) (by omega) ?_
              refine tb_if_ne 195 193 dL_law_190 (by decide) rfl (fun c190 => ?_) (fun c190 => ?_)
              · skip
                have hI1 : INV ((e + 1 : Nat) : Int) ν X := ⟨PRE_e hI.1 (by omega), hI.2⟩
                refine tj_inc3 198 dL_law_195 rfl (by decide) rfl ?_
                refine ev_goto 36 dL_law_198 (by decide) ?_
                exact ev_mono (by omega) (by omega) (ih36 (e + 1) _ _ _ _ _ _ _ (by omega) hT (by first | omega | assumption | omega) (by first | omega | assumption | omega) (by first | rfl | omega | (omega)))
              · exact False.elim (by cases c190)
          · skip
            refine ev_tswOut 164 dL_law_59 (by first | exact TR.rng hT _ _ _ | exact R31_of _ | exact bi_R _ | assumption | (constructor <;> omega)) (by omega) (by decide) ?_
            refine ev_ald1 165 dL_law_164 rfl ?_
            refine ev_ald2 166 dL_law_165 rfl ?_
            refine ev_ild4 168 dL_law_166 rfl ?_
            refine tj_iconst 169 dL_law_168 rfl ?_
            refine ev_ishr 170 dL_law_169 rfl ?_
            refine tl_S (12027 + (12030 * (22 - (e + 1)))) (73162 + (73180 * (22 - (e + 1)))) 173 dL_law_170 lks_L_225 (c_L_changes hT hI) (by first | decide | omega) rfl rfl (Nat.le_of_ble_eq_true rfl) rfl (by omega) (by omega) (fun h α ν X hT hP170 => ?_)
            obtain ⟨f0, f40, hI⟩ := hP170
            rw [← f0, ← f40]
            refine ev_ist5 175 dL_law_173 rfl (by decide) rfl ?_
            refine ev_ild5 177 dL_law_175 rfl ?_
            refine tb_if_eq 193 180 dL_law_177 (by decide) rfl (fun c177 => ?_) (fun c177 => ?_)
            · exact False.elim (by cases c177)
            · skip
              refine ev_ald1 181 dL_law_180 rfl ?_
              refine ev_ald2 182 dL_law_181 rfl ?_
              refine ev_ild4 184 dL_law_182 rfl ?_
              refine tj_bipush 186 dL_law_184 (by decide) rfl ?_
              refine ev_ishr 187 dL_law_186 rfl ?_
              refine tp_S (3643 + (12030 * (22 - (e + 1)))) (21858 + (73180 * (22 - (e + 1)))) 190 dL_law_187 lks_L_211 (c_L_agrees hT hI.1.1 hI.1.2.2.2.1 hI.1.2.2.2.2.1 hI.1.2.2.1 hI.2) (by first | decide | omega) rfl rfl (Nat.le_of_ble_eq_true rfl) rfl (by omega) (by omega) ?_
              refine tb_if_ne 195 193 dL_law_190 (by decide) rfl (fun c190 => ?_) (fun c190 => ?_)
              · skip
                have hI1 : INV ((e + 1 : Nat) : Int) ν X := ⟨PRE_e hI.1 (by omega), hI.2⟩
                refine tj_inc3 198 dL_law_195 rfl (by decide) rfl ?_
                refine ev_goto 36 dL_law_198 (by decide) ?_
                exact ev_mono (by omega) (by omega) (ih36 (e + 1) _ _ _ _ _ _ _ (by omega) hT (by first | omega | assumption | omega) (by first | omega | assumption | omega) (by first | rfl | omega | (omega)))
              · exact False.elim (by cases c190)
          · skip
            refine ev_tswOut 164 dL_law_59 (by first | exact TR.rng hT _ _ _ | exact R31_of _ | exact bi_R _ | assumption | (constructor <;> omega)) (by omega) (by decide) ?_
            refine ev_ald1 165 dL_law_164 rfl ?_
            refine ev_ald2 166 dL_law_165 rfl ?_
            refine ev_ild4 168 dL_law_166 rfl ?_
            refine tj_iconst 169 dL_law_168 rfl ?_
            refine ev_ishr 170 dL_law_169 rfl ?_
            refine tl_S (12027 + (12030 * (22 - (e + 1)))) (73162 + (73180 * (22 - (e + 1)))) 173 dL_law_170 lks_L_225 (c_L_changes hT hI) (by first | decide | omega) rfl rfl (Nat.le_of_ble_eq_true rfl) rfl (by omega) (by omega) (fun h α ν X hT hP170 => ?_)
            obtain ⟨f0, f40, hI⟩ := hP170
            rw [← f0, ← f40]
            refine ev_ist5 175 dL_law_173 rfl (by decide) rfl ?_
            refine ev_ild5 177 dL_law_175 rfl ?_
            refine tb_if_eq 193 180 dL_law_177 (by decide) rfl (fun c177 => ?_) (fun c177 => ?_)
            · exact False.elim (by cases c177)
            · skip
              refine ev_ald1 181 dL_law_180 rfl ?_
              refine ev_ald2 182 dL_law_181 rfl ?_
              refine ev_ild4 184 dL_law_182 rfl ?_
              refine tj_bipush 186 dL_law_184 (by decide) rfl ?_
              refine ev_ishr 187 dL_law_186 rfl ?_
              refine tp_S (3643 + (12030 * (22 - (e + 1)))) (21858 + (73180 * (22 - (e + 1)))) 190 dL_law_187 lks_L_211 (c_L_agrees hT hI.1.1 hI.1.2.2.2.1 hI.1.2.2.2.2.1 hI.1.2.2.1 hI.2) (by first | decide | omega) rfl rfl (Nat.le_of_ble_eq_true rfl) rfl (by omega) (by omega) ?_
              refine tb_if_ne 195 193 dL_law_190 (by decide) rfl (fun c190 => ?_) (fun c190 => ?_)
              · skip
                have hI1 : INV ((e + 1 : Nat) : Int) ν X := ⟨PRE_e hI.1 (by omega), hI.2⟩
                refine tj_inc3 198 dL_law_195 rfl (by decide) rfl ?_
                refine ev_goto 36 dL_law_198 (by decide) ?_
                exact ev_mono (by omega) (by omega) (ih36 (e + 1) _ _ _ _ _ _ _ (by omega) hT (by first | omega | assumption | omega) (by first | omega | assumption | omega) (by first | rfl | omega | (omega)))
              · exact False.elim (by cases c190)
    exact ev_mono (by omega) (by omega) (lp36 _ (0) _ _ _ _ _ _ _ (Nat.lt_succ_self _) hT (by first | omega | assumption | omega) (by first | omega | assumption | omega) (by first | rfl | omega | (omega)))
  · exact False.elim (by cases c29)
set_option maxRecDepth 100000 in
set_option maxHeartbeats 4000000 in
/-- the law from its entry -/
theorem lw_entry {g : Gt} {Q : RT → AH → Prop} (hl : (gX g).2.1 ≤ 260) (hQ : ∀ h, Q (.inl (some (.int (J 1)))) h) : Ev g M_L_law 2048 0 [some (.ref (gX g).1), none, none, none, none, none] [] (fun _ => none) 708917 6963016 Q := by
  obtain ⟨ma, hma⟩ : ∃ z : Nat, z = 273044 := ⟨_, rfl⟩
  obtain ⟨mb, hmb⟩ : ∃ z : Nat, z = 1661264 := ⟨_, rfl⟩
  refine ev_mono (mc := 46 + (194 + ma) + 1) (ms := 905 + (3357 + mb) + 12) (by omega) (by omega) ?_
  refine ev_newk 3 13 nw_L_10 rfl dL_law_0 rfl (fun q0 hq0 hb0 => ?_)
  refine ev_dup 4 dL_law_3 rfl rfl ?_
  refine kv_init (d := 2048) (d1 := 5) (st := [.ref q0]) 7 lki_L_206 (k_X11_init (hup_eq _ _ _) hb0) (by decide) rfl rfl (Nat.le_of_ble_eq_true rfl) dL_law_4 rfl (fun h1 hP => ?_)
  obtain ⟨a1, a2, a3, a4, a5, a6, a7, a8, a9, a10, a11, a12, r13, a14, a15, a16, a17, a18, a19, a20, a21, a22, a23, a24, a25, a26, a27, K1⟩ := hP
  have F1 := FR.of_KN hq0 K1
  refine ev_ast1 8 dL_law_7 rfl (by decide) rfl ?_
  refine ev_ald1 9 dL_law_8 rfl ?_
  refine ev_ald0 10 dL_law_9 rfl ?_
  refine ev_callS (M := M_L_law) (index := 207) (d := 2048) (st := []) 13 lks_L_207 (c_L_office (A := fun n => ([0, a1, a2, a3, a4, a5, a6, a7, a8, a9, a10, a11, a12, 0, a14, a15, a16, a17, a18, a19, a20, a21, a22, a23, a24, a25, a26, a27] : List Nat).getD n 0) (r := r13) hl F1 (fun q1 B => rfl)) (by decide) rfl rfl (Nat.le_of_ble_eq_true rfl) dL_law_10 rfl (fun v h2 hq => ?_) (fun E h' hq => ?_)
  · obtain ⟨α, ν, X, e, e0, hT, hI⟩ := hq
    cases e
    rw [← e0]
    show Ev g M_L_law 2048 13 _ [.ref (α 40 0)] h2 ma mb Q
    rw [hma, hmb]
    refine ev_ast2 14 dL_law_13 rfl (by decide) rfl ?_
    exact L_law14 hl hT hI hQ
  · obtain ⟨α, ν, X, e, -⟩ := hq
    cases e
