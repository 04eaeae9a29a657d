/-! WHAT ENDS HOLDS -/
theorem gk_50 {k i n : Nat} (e : gk k i = (50, n)) : k = 50 ∧ i = n := by
  unfold gk at e
  (repeat' split at e) <;> (simp only [Prod.mk.injEq] at e <;> omega)
theorem nu_gk {k : Nat} (h : k ≠ 50) (i : Nat) : (gk k i).1 ≠ 50 := fun e => h (gk_50 (n := (gk k i).2) (Prod.ext e rfl)).1
/-- without what ends held before -/
def nuD (ν : Nat → Nat → Bool) : Nat → Nat → Bool := fun a b => ν a b && !decide (a = 50)
theorem nuD_ne (ν : Nat → Nat → Bool) {a b : Nat} (h : a ≠ 50) : nuD ν a b = ν a b := by unfold nuD; rw [decide_eq_false h]; simp
section HAD
variable {g : Gt} {α : AL} {ν ν' : Nat → Nat → Bool} {X : XM} {h : AH}
theorem vk_h (hn : ∀ a b, a ≠ 50 → ν' a b = ν a b) {k : Nat} (hk : k ≠ 50) (i : Nat) : vk ν' k i = vk ν k i := by
  unfold vk
  rw [hn _ _ (nu_gk hk i)]
theorem ek_n50 (i : Nat) : ek i ≠ 50 := by unfold ek; (repeat' split) <;> decide
theorem wx_h (hn : ∀ a b, a ≠ 50 → ν' a b = ν a b) (hW : WX ν X) : WX ν' X := by
  have e2 : ν' 2 = ν 2 := funext fun b => hn 2 b (by decide)
  have e4 : ν' 4 = ν 4 := funext fun b => hn 4 b (by decide)
  have e12 : ν' 12 = ν 12 := funext fun b => hn 12 b (by decide)
  have e14 : ν' 14 = ν 14 := funext fun b => hn 14 b (by decide)
  have e16 : ν' 16 = ν 16 := funext fun b => hn 16 b (by decide)
  refine ⟨hW.1, ?_⟩
  have h2 := hW.2
  unfold WV at h2 ⊢
  rw [e2, e4, e12, e14, e16]
  exact h2
theorem clo_h (hn : ∀ a b, a ≠ 50 → ν' a b = ν a b) (hC : CLO ν X) : CLO ν' X := by
  obtain ⟨h0, h1, h2, h3, h4⟩ := hC
  exact ⟨by rw [hn 0 0 (by decide)]; exact h0, by rw [hn 4 16 (by decide)]; exact h1, fun s e => h2 s (by rw [← hn 4 s (by decide)]; exact e), fun i hv hx => by rw [hn 2 i (by decide)]; exact h3 i (by rw [← vk_h hn (by decide)]; exact hv) hx, fun i j e hx => by rw [vk_h hn (ek_n50 i)]; exact h4 i j (by rw [← hn 2 i (by decide)]; exact e) hx⟩
theorem nv_h (hn : ∀ a b, a ≠ 50 → ν' a b = ν a b) (hV : NV ν X) : NV ν' X := by
  obtain ⟨h0, h1, h2, h3, h4, h5⟩ := hV
  exact ⟨clo_h hn h0, fun s e => h1 s (by rw [← hn 4 s (by decide)]; exact e), fun s e => h2 s (by rw [← hn 12 s (by decide)]; exact e), fun s e => h3 s (by rw [← hn 14 s (by decide)]; exact e), fun s e => h4 s (by rw [← hn 16 s (by decide)]; exact e), fun s e => h5 s (by rw [← hn 2 s (by decide)]; exact e)⟩
theorem TR.sub (hT : TR g α ν X h) (hs : ∀ a b, ν' a b = true → ν a b = true) (h0 : ν' 0 0 = true) : TR g α ν' X h := ⟨fun k i hv => hT.1 k i (vk_up hs hv), fun k i k' i' a b => hT.2.1 _ _ _ _ (vk_up hs a) (vk_up hs b), hT.2.2.1, h0⟩
theorem tn_had {q : Nat} (hT : TR g α ν X h) (hC : CLO ν X) (hq : h q = none) (hb : gB g ≤ q) : ∃ α' ν', TR g α' ν' (xG X (50, 0) (fun _ _ _ => 0)) (hup h q (zi 5)) ∧ α' 50 0 = q ∧ (∀ k, k ≠ 50 → α' k = α k) ∧ (∀ a b, a ≠ 50 → ν' a b = ν a b) ∧ ν' 50 0 = true := by
  have e50 : gk 50 0 = (50, 0) := rfl
  have hT1 := hT.sub (ν' := nuD ν) (fun a b e => by unfold nuD at e; simp at e; exact e.1) (by rw [nuD_ne ν (by decide)]; exact hT.2.2.2)
  have hC1 := clo_h (ν' := nuD ν) (fun a b n => nuD_ne ν n) hC
  refine ⟨alG α (50, 0) [(q, zi 5)] (fun _ _ => 0), nuG (nuD ν) (50, 0), TR.grow hT1 hC1 (FR.one hq hb) (by simp [nuD]) (fun k i hv e => ?_) (fun k i k' i' _ e _ e' he => ?_) (fun _ _ _ _ => R31_0), ?_, ?_, ?_, nuG_new _ _⟩
  · obtain ⟨rfl, rfl⟩ := gk_50 e
    exact ⟨q, congrArg some (Prod.ext rfl (zi_x (fun j => rfl)))⟩
  · obtain ⟨rfl, rfl⟩ := gk_50 e
    obtain ⟨rfl, rfl⟩ := gk_50 e'
    exact ⟨rfl, rfl⟩
  · unfold alG
    rw [if_pos e50]
    rfl
  · exact fun k hk => funext fun i => alG_ne (fun e => hk (gk_50 e).1)
  · exact fun a b n => by rw [nuG_ne (fun e => n (congrArg Prod.fst e)), nuD_ne ν n]
theorem xG_50 (X : XM) (x : XM) {k : Nat} (hk : k ≠ 50) : xG X (50, 0) x k = X k := funext fun i => xG_ne (fun e => hk (gk_50 e).1)
end HAD
set_option maxRecDepth 100000 in
set_option maxHeartbeats 4000000 in
theorem c_L_ends {g : Gt} {α : AL} {ν : Nat → Nat → Bool} {X : XM} {h : AH} {e : Int} (hT : TR g α ν X h) (hI : INV e ν X) (he2 : e + 1 ≤ 1000000) {v : Int32}  : Al g M_L_ends 47 [.ref (α 0 0), .ref (α 40 0), .int v] h 1 5 (some (.int (J (bi true)))) ((fun α' ν' X' => α' 0 0 = α 0 0 ∧ α' 40 0 = α 40 0 ∧ INV (e + 1) ν' X')) := by
  refine ct_of_ev rfl rfl (ls := [some (.ref (α 0 0)), some (.ref (α 40 0)), some (.int v), none, none, none, none, none]) rfl (Nat.le_of_ble_eq_true rfl) ?_
  show Ev g M_L_ends 47 0 [some (.ref (α 0 0)), some (.ref (α 40 0)), some (.int v), none, none, none, none, none] [] h 1 5 (AQ g (some (.int (J (bi true)))) ((fun α' ν' X' => α' 0 0 = α 0 0 ∧ α' 40 0 = α 40 0 ∧ INV (e + 1) ν' X')))
  obtain ⟨⟨hW, hV, hS, hO, hTL, hM, he⟩, hN⟩ := id hI
  obtain ⟨eC, eS, eF⟩ := id hO
  have hdy := wo_day hW.1
  refine ev_ald0 1 dL_ends_0 rfl ?_
  refine tc_V0 4 13 dL_ends_1 lkv_L_157 (tr0 hT) rfl rfl (by first | decide | omega) (Nat.le_of_ble_eq_true rfl) (c_X11_day_ok hT hW) ?_
  refine tj_bipush 6 dL_ends_4 (by decide) rfl ?_
  refine tj_icmp_ge 40 9 dL_ends_6 (by decide) rfl (by first | exact TR.rng hT _ _ _ | exact R31_of _ | exact bi_R _ | assumption | (constructor <;> omega)) (by first | exact TR.rng hT _ _ _ | exact R31_of _ | exact bi_R _ | assumption | (constructor <;> omega)) (fun c6 => ?_) (fun c6 => ?_)
  · skip
    refine tj_iconst 41 dL_ends_40 rfl ?_
    refine ev_ist3 42 dL_ends_41 rfl (by decide) rfl ?_
    refine tj_iconst 43 dL_ends_42 rfl ?_
    refine ev_mono (mc := 0 + 1) (ms := 0 + 5) (by omega) (by omega) ?_
    refine ev_newarray 45 dL_ends_43 rfl rfl (ki := 0) (N' := 5) (a0 := (5, .inl (fun _ => 0))) awint (fun _ => rfl) (by decide) (by decide) (by decide) rfl (fun q hq hqb => ?_)
    obtain ⟨α, ν, hT, rfl, ha, hn, hn5⟩ := tn_had hT hV.1 hq hqb
    have f0 := congrFun (ha 0 (by decide)) 0
    have f40 := congrFun (ha 40 (by decide)) 0
    rw [← f0, ← f40]
    obtain ⟨O, hO_⟩ : ∃ O, O = xG X (50, 0) (fun _ _ _ => 0) := ⟨_, rfl⟩
    rw [← hO_] at hT
    have hk0 : ∀ k, k ≠ 50 → O k = X k := fun k hk => by rw [hO_]; exact xG_50 X _ hk
    have hW0 : WX ν O := wx_h hn (wx_cg hW (fun k hk => hk0 k (by omega)))
    have hV0 : NV ν O := nv_h hn (nv_kp hV (KP.same (hk0 1 (by decide)) (hk0 2 (by decide))))
    have hOF : OFF O := OFF_k hO (fun i hi => by rw [hk0 1 (by decide)])
    have hTL0 : TLD O := TLD_k hTL (hk0 4 (by decide)) (hk0 12 (by decide)) (hk0 13 (by decide)) (hk0 16 (by decide)) (fun k h1 h2 => hk0 k (by omega))
    have hM0 : TMk O := by unfold TMk; rw [hk0 7 (by decide)]; exact hM
    have he0 : O 0 0 6 ≤ e := by rw [hk0 0 (by decide)]; exact he
    have hd0 : 20 < O 0 0 5 := by rw [hk0 0 (by decide)]; omega
    have h70 : ∀ s i : Nat, s < 5 → i < 5 → O 7 s i = -1 := hM0
    refine ev_ast4 47 dL_ends_45 rfl (by decide) rfl ?_
    refine ev_ild2 48 dL_ends_47 rfl ?_
    refine tj_iconst 49 dL_ends_48 rfl ?_
    refine ev_ishr 50 dL_ends_49 rfl ?_
    refine tj_iconst 51 dL_ends_50 rfl ?_
    refine ly_low (5) 54 dL_ends_51 lks_L_50 (by omega) (by omega) (by omega) rfl (by first | decide | omega) (Nat.le_of_ble_eq_true rfl) (fun r51 hr51 => ?_)
    refine ev_ist5 56 dL_ends_54 rfl (by decide) rfl ?_
    refine tj_iconst 57 dL_ends_56 rfl ?_
    refine ev_ist6 59 dL_ends_57 rfl (by decide) rfl ?_
    have lp59 : ∀ (n59 : Nat) (j : Nat) (z3 : Int) (z6 : Int) (o7 : Option Value) (h : AH) (α : AL) (ν : Nat → Nat → Bool) (X : XM), 6 - j < n59 → TR g α ν X h → (j ≤ 5) → (WX ν X) → (NV ν O) → (ν 50 0 = true) → (∀ k, k ≠ 7 → k ≠ 50 → X k = O k) → (∀ i : Nat, i < j → X 50 0 i = O 9 r51 i + bi (tak O r51 i)) → (∀ i : Nat, j ≤ i → i < 5 → X 7 r51 i = -1) → (0 ≤ sm (enr O) j ∧ sm (enr O) j ≤ 20 * j) → z3 = sm (enr O) j → z6 = (j : Int) → Ev g M_L_ends 47 59 [some (.ref (α 0 0)), some (.ref (α 40 0)), some (.int v), some (.int (J z3)), some (.ref (α 50 0)), some (.int (J (r51 : Int))), some (.int (J z6)), o7] [] h (0) (0) (AQ g (some (.int (J (bi true)))) ((fun α' ν' X' => α' 0 0 = α 0 0 ∧ α' 40 0 = α 40 0 ∧ INV (e + 1) ν' X'))) := by
      intro n59
      induction n59 with
      | zero => intro j z3 z6 o7 h α ν X hm; exact absurd hm (Nat.not_lt_zero _)
      | succ n59 ih59 =>
        intro j z3 z6 o7 h α ν X hm59 hT hj hW hV0 hn5 hk h50 h7 hz e3 e6
        subst e3
        subst e6
        have hO : OFF X := OFF_k hOF (fun i hi => by rw [hk 1 (by decide) (by decide)])
        obtain ⟨eC, eS, eF⟩ := id hO
        have hTL : TLD X := TLD_k hTL0 (hk 4 (by decide) (by decide)) (hk 12 (by decide) (by decide)) (hk 13 (by decide) (by decide)) (hk 16 (by decide) (by decide)) (fun k h1 h2 => hk k (by omega) (by omega))
        have h9 : X 9 = O 9 := hk 9 (by decide) (by decide)
        have htO : ∀ s c, tak X s c = tak O s c := fun s c => by rw [tak_k (hk 5 (by decide) (by decide)) s]
        refine ev_ild6 61 dL_ends_59 rfl ?_
        refine tj_iconst 62 dL_ends_61 rfl ?_
        refine tj_icmp_ge 147 65 dL_ends_62 (by decide) rfl (by first | exact TR.rng hT _ _ _ | exact R31_of _ | exact bi_R _ | assumption | (constructor <;> omega)) (by first | exact TR.rng hT _ _ _ | exact R31_of _ | exact bi_R _ | assumption | (constructor <;> omega)) (fun c62 => ?_) (fun c62 => ?_)
        · skip
          obtain rfl : j = 5 := by omega
          have hdX : 20 < X 0 0 5 := by rw [hk 0 (by decide) (by decide)]; exact hd0
          have heX : X 0 0 6 ≤ e := by rw [hk 0 (by decide) (by decide)]; exact he0
          have hca : caN X (nS X).toNat = sm (enr O) 5 := by rw [eS]; exact (caN_enr hW.1 eC eS).trans (sm_cg 5 (fun c _ => enr_k (hk 5 (by decide) (by decide)) (by unfold nS; rw [hk 1 (by decide) (by decide)]) c))
          refine ev_ald0 148 dL_ends_147 rfl ?_
          refine tm_V0 151 13 dL_ends_148 lkv_L_179 (tr0 hT) rfl rfl (by first | decide | omega) (Nat.le_of_ble_eq_true rfl) (c_X11_endTerm_ok hT hW hdX (by omega)) (fun h X3 hT hP => ?_)
          obtain ⟨hX3, hW3⟩ := hP
          have hWX := hW
          have hW := hW3
          rw [hca]
          have hI3 : INV (e + 1) ν X3 := by rw [hX3]; exact INV_et hWX (nv_kp hV0 (KP.same (hk 1 (by decide) (by decide)) (hk 2 (by decide) (by decide)))) hO hTL (by rw [hk 0 (by decide) (by decide)]; exact he0) he2 hdX
          obtain ⟨eC3, eS3, eF3⟩ := hI3.1.2.2.2.1
          have hd3 : X3 0 0 5 = 0 := by rw [hX3]; exact etO_day X
          have h93 : ∀ k : Nat, k < 5 → X3 9 r51 k = X3 50 0 k := fun k hk5 => by rw [hX3, etO_9 hWX.1 (by omega) (by omega), etO_k (by decide) (by decide) (by decide) (by decide) (by decide) (by decide), h50 k hk5, h9, htO]
          have h53 : ∀ k : Nat, k < 5 → tak X3 r51 k = false := fun k hk5 => by rw [hX3]; exact etO_5 hWX.1 (by omega) (by omega)
          refine ev_ild3 152 dL_ends_151 rfl ?_
          refine tj_icmp_ne 166 155 dL_ends_152 (by decide) rfl (by first | exact TR.rng hT _ _ _ | exact R31_of _ | exact bi_R _ | assumption | (constructor <;> omega)) (by first | exact TR.rng hT _ _ _ | exact R31_of _ | exact bi_R _ | assumption | (constructor <;> omega)) (fun c152 => ?_) (fun c152 => ?_)
          · exact False.elim (c152 rfl)
          · skip
            refine ev_ald0 156 dL_ends_155 rfl ?_
            refine tc_V0 159 13 dL_ends_156 lkv_L_157 (tr0 hT) rfl rfl (by first | decide | omega) (Nat.le_of_ble_eq_true rfl) (c_X11_day_ok hT hW) ?_
            refine tj_if_ne 166 162 dL_ends_159 (by decide) rfl (by first | exact TR.rng hT _ _ _ | exact R31_of _ | exact bi_R _ | assumption | (constructor <;> omega)) (fun c159 => ?_) (fun c159 => ?_)
            · exact False.elim (by omega)
            · skip
              refine tj_iconst 163 dL_ends_162 rfl ?_
              refine ev_goto 167 dL_ends_163 (by decide) ?_
              refine ev_ist6 169 dL_ends_167 rfl (by decide) rfl ?_
              refine tj_iconst 170 dL_ends_169 rfl ?_
              refine ev_ist7 172 dL_ends_170 rfl (by decide) rfl ?_
              have lp172 : ∀ (n172 : Nat) (k : Nat) (z7 : Int) , 6 - k < n172 → (k ≤ 5) → z7 = (k : Int) → Ev g M_L_ends 47 172 [some (.ref (α 0 0)), some (.ref (α 40 0)), some (.int v), some (.int (J (sm (enr O) 5))), some (.ref (α 50 0)), some (.int (J (r51 : Int))), some (.int (J 1)), some (.int (J z7))] [] h (0) (0) (AQ g (some (.int (J (bi true)))) ((fun α' ν' X' => α' 0 0 = α 0 0 ∧ α' 40 0 = α 40 0 ∧ INV (e + 1) ν' X'))) := by
                intro n172
                induction n172 with
                | zero => intro k z7 hm; exact absurd hm (Nat.not_lt_zero _)
                | succ n172 ih172 =>
                  intro k z7 hm172  hk5 e7
                  subst e7
                  refine ev_ild7 174 dL_ends_172 rfl ?_
                  refine tj_iconst 175 dL_ends_174 rfl ?_
                  refine tj_icmp_ge 223 178 dL_ends_175 (by decide) rfl (by first | exact TR.rng hT _ _ _ | exact R31_of _ | exact bi_R _ | assumption | (constructor <;> omega)) (by first | exact TR.rng hT _ _ _ | exact R31_of _ | exact bi_R _ | assumption | (constructor <;> omega)) (fun c175 => ?_) (fun c175 => ?_)
                  · skip
                    refine ev_ild6 225 dL_ends_223 rfl ?_
                    exact lz_ret (p := true) (by first | rfl | omega | exact bi_dt (by omega) | exact bi_df (by omega) | (rfl)) hT (by exact ⟨rfl, rfl, hI3⟩) rfl dL_ends_225
                  · skip
                    refine ev_ild6 180 dL_ends_178 rfl ?_
                    refine tj_if_eq 214 183 dL_ends_180 (by decide) rfl (by first | exact TR.rng hT _ _ _ | exact R31_of _ | exact bi_R _ | assumption | (constructor <;> omega)) (fun c180 => ?_) (fun c180 => ?_)
                    · exact False.elim (by omega)
                    · skip
                      refine ev_ald0 184 dL_ends_183 rfl ?_
                      refine ev_ild5 186 dL_ends_184 rfl ?_
                      refine ev_ild7 188 dL_ends_186 rfl ?_
                      have htr3 := wo_tri hW3.1 r51 k (by omega) (by omega)
                      have h93k := h93 k (by omega)
                      refine tc_V2 191 13 dL_ends_188 lkv_L_166 (tr0 hT) rfl rfl (by first | decide | omega) (Nat.le_of_ble_eq_true rfl) (c_X11_attempts_ok hT hW (by omega) (by omega)) ?_
                      refine ev_ald4 193 dL_ends_191 rfl ?_
                      refine ev_ild7 195 dL_ends_193 rfl ?_
                      refine tv_iald 196 (tr50 hT hn5) (k) (by omega) (by omega) (by omega) dL_ends_195 rfl ?_
                      refine tj_icmp_ne 214 199 dL_ends_196 (by decide) rfl (by first | exact TR.rng hT _ _ _ | exact R31_of _ | exact bi_R _ | assumption | (constructor <;> omega)) (by first | exact TR.rng hT _ _ _ | exact R31_of _ | exact bi_R _ | assumption | (constructor <;> omega)) (fun c196 => ?_) (fun c196 => ?_)
                      · exact False.elim (by exact c196 (h93 k (by omega)))
                      · skip
                        refine ev_ald0 200 dL_ends_199 rfl ?_
                        refine ev_ild5 202 dL_ends_200 rfl ?_
                        refine ev_ild7 204 dL_ends_202 rfl ?_
                        refine tc_V2 207 13 dL_ends_204 lkv_L_154 (tr0 hT) rfl rfl (by first | decide | omega) (Nat.le_of_ble_eq_true rfl) (c_X11_isEnrolled_ok hT hW (by omega) (by omega)) ?_
                        refine tb_if_ne 214 210 dL_ends_207 (by decide) rfl (fun c207 => ?_) (fun c207 => ?_)
                        · exact False.elim (by rw [h53 k (by omega)] at c207; cases c207)
                        · skip
                          refine tj_iconst 211 dL_ends_210 rfl ?_
                          refine ev_goto 215 dL_ends_211 (by decide) ?_
                          refine ev_ist6 217 dL_ends_215 rfl (by decide) rfl ?_
                          refine tj_inc7 220 dL_ends_217 rfl (by decide) rfl ?_
                          refine ev_goto 172 dL_ends_220 (by decide) ?_
                          exact ev_mono (by omega) (by omega) (ih172 (k + 1) _ (by omega) (by first | omega | assumption | omega) (by first | rfl | omega | (omega)))
              exact ev_mono (by omega) (by omega) (lp172 _ (0) _ (Nat.lt_succ_self _) (by first | omega | assumption | omega) (by first | rfl | omega | (omega)))
        · skip
          refine ev_ild3 66 dL_ends_65 rfl ?_
          refine ev_ald1 67 dL_ends_66 rfl ?_
          refine ev_ald0 68 dL_ends_67 rfl ?_
          refine ev_ild6 70 dL_ends_68 rfl ?_
          refine tj_iconst 71 dL_ends_70 rfl ?_
          refine tp_V (0) (0) 74 14 dL_ends_71 lkv_L_131 (tr40 hT) rfl (c_X12_of hT hW hO hTL (by omega) (by omega)) (by first | decide | omega) rfl rfl (Nat.le_of_ble_eq_true rfl) rfl (by omega) (by omega) ?_
          rw [ofP_enr eS j (show (-1 : Int) < 0 by omega)]
          have her := enr_0 hW.1 j
          have hej : enr X j = enr O j := enr_k (hk 5 (by decide) (by decide)) (by unfold nS; rw [hk 1 (by decide) (by decide)]) j
          refine tj_iadd 75 dL_ends_74 rfl ?_
          refine ev_ist3 76 dL_ends_75 rfl (by decide) rfl ?_
          refine ev_ald4 78 dL_ends_76 rfl ?_
          refine ev_ild6 80 dL_ends_78 rfl ?_
          refine ev_ald0 81 dL_ends_80 rfl ?_
          refine ev_ild5 83 dL_ends_81 rfl ?_
          refine ev_ild6 85 dL_ends_83 rfl ?_
          refine tc_V2 88 13 dL_ends_85 lkv_L_166 (tr0 hT) rfl rfl (by first | decide | omega) (Nat.le_of_ble_eq_true rfl) (c_X11_attempts_ok hT hW (by omega) (by omega)) ?_
          refine ev_ald0 89 dL_ends_88 rfl ?_
          refine ev_ild5 91 dL_ends_89 rfl ?_
          refine ev_ild6 93 dL_ends_91 rfl ?_
          refine tc_V2 96 13 dL_ends_93 lkv_L_154 (tr0 hT) rfl rfl (by first | decide | omega) (Nat.le_of_ble_eq_true rfl) (c_X11_isEnrolled_ok hT hW (by omega) (by omega)) ?_
          refine tb_if_eq 103 99 dL_ends_96 (by decide) rfl (fun c96 => ?_) (fun c96 => ?_)
          · skip
            refine tj_iconst 104 dL_ends_103 rfl ?_
            refine tj_iadd 105 dL_ends_104 rfl ?_
            have htr := wo_tri hW.1 r51 j (by omega) (by omega)
            refine tv_iast 106 hT (tv50 hT hn5) (fun _ => rfl) (j) (by omega) (by omega) (by omega) (by first | exact TR.rng hT _ _ _ | exact R31_of _ | exact bi_R _ | assumption | (constructor <;> omega)) dL_ends_105 rfl (fun h hT => ?_)
            obtain ⟨X1, hX1⟩ : ∃ Z, Z = xs X 50 0 j (X 9 r51 j + 0) := ⟨_, rfl⟩
            rw [← hX1] at hT
            have hW1 : WX ν X1 := by rw [hX1]; exact wx_cg hW (fun kk hk => xs_nk (by omega))
            have hW := hW1
            have eC1 : nC X1 = 5 := by rw [← eC, hX1]; unfold nC; rw [xs_nk (by decide)]
            have eS1 : nS X1 = 5 := by rw [← eS, hX1]; unfold nS; rw [xs_nk (by decide)]
            have htk : tak X1 r51 j = tak X r51 j := by rw [hX1, tak_k (xs_nk (by decide)) r51]
            have hd1 : 20 < X1 0 0 5 := by rw [hX1, xs_nk (by decide), hk 0 (by decide) (by decide)]; exact hd0
            have h7j : X1 7 r51 j = -1 := by rw [hX1, xs_nk (by decide)]; exact h7 j (by omega) (by omega)
            refine ev_ald0 107 dL_ends_106 rfl ?_
            refine ev_ild5 109 dL_ends_107 rfl ?_
            refine ev_ild6 111 dL_ends_109 rfl ?_
            refine tc_V2 114 13 dL_ends_111 lkv_L_154 (tr0 hT) rfl rfl (by first | decide | omega) (Nat.le_of_ble_eq_true rfl) (c_X11_isEnrolled_ok hT hW (by omega) (by omega)) ?_
            rw [htk]
            refine tb_if_eq 141 117 dL_ends_114 (by decide) rfl (fun c114 => ?_) (fun c114 => ?_)
            · skip
              have hk1 : ∀ k, k ≠ 7 → k ≠ 50 → X1 k = O k := fun k h7 h50 => by rw [hX1, xs_nk h50]; exact hk k h7 h50
              have h501 : ∀ i : Nat, i < j + 1 → X1 50 0 i = O 9 r51 i + bi (tak O r51 i) := fun i hi => by
                          rw [hX1, xs_all]
                          by_cases e : i = j
                          · subst e; rw [if_pos ⟨rfl, rfl, rfl⟩, h9, ← htO, c96]; rfl
                          · rw [if_neg (fun z => e z.2.2)]; exact h50 i (by omega)
              have h71 : ∀ i : Nat, j + 1 ≤ i → i < 5 → X1 7 r51 i = -1 := fun i hi h5 => by rw [hX1, xs_nk (by decide)]; exact h7 i (by omega) h5
              refine tj_inc6 144 dL_ends_141 rfl (by decide) rfl ?_
              refine ev_goto 59 dL_ends_144 (by decide) ?_
              exact ev_mono (by omega) (by omega) (ih59 (j + 1) _ _ _ _ _ _ _ (by omega) hT (by first | omega | assumption | exact fun k _ _ => rfl | exact fun i hi => absurd hi (Nat.not_lt_zero _) | exact fun i _ h5 => h70 _ _ hr51 h5 | (rw [sm_s]; omega) | exact ⟨Int.le_refl _, Int.le_refl _⟩) (by first | omega | assumption | exact fun k _ _ => rfl | exact fun i hi => absurd hi (Nat.not_lt_zero _) | exact fun i _ h5 => h70 _ _ hr51 h5 | (rw [sm_s]; omega) | exact ⟨Int.le_refl _, Int.le_refl _⟩) (by first | omega | assumption | exact fun k _ _ => rfl | exact fun i hi => absurd hi (Nat.not_lt_zero _) | exact fun i _ h5 => h70 _ _ hr51 h5 | (rw [sm_s]; omega) | exact ⟨Int.le_refl _, Int.le_refl _⟩) (by first | omega | assumption | exact fun k _ _ => rfl | exact fun i hi => absurd hi (Nat.not_lt_zero _) | exact fun i _ h5 => h70 _ _ hr51 h5 | (rw [sm_s]; omega) | exact ⟨Int.le_refl _, Int.le_refl _⟩) (by first | omega | assumption | exact fun k _ _ => rfl | exact fun i hi => absurd hi (Nat.not_lt_zero _) | exact fun i _ h5 => h70 _ _ hr51 h5 | (rw [sm_s]; omega) | exact ⟨Int.le_refl _, Int.le_refl _⟩) (by first | omega | assumption | exact fun k _ _ => rfl | exact fun i hi => absurd hi (Nat.not_lt_zero _) | exact fun i _ h5 => h70 _ _ hr51 h5 | (rw [sm_s]; omega) | exact ⟨Int.le_refl _, Int.le_refl _⟩) (by first | omega | assumption | exact fun k _ _ => rfl | exact fun i hi => absurd hi (Nat.not_lt_zero _) | exact fun i _ h5 => h70 _ _ hr51 h5 | (rw [sm_s]; omega) | exact ⟨Int.le_refl _, Int.le_refl _⟩) (by first | omega | assumption | exact fun k _ _ => rfl | exact fun i hi => absurd hi (Nat.not_lt_zero _) | exact fun i _ h5 => h70 _ _ hr51 h5 | (rw [sm_s]; omega) | exact ⟨Int.le_refl _, Int.le_refl _⟩) (by first | rfl | omega | (first | rfl | (rw [sm_s, hej]))) (by first | rfl | omega | (first | rfl | (rw [sm_s, hej]))))
            · exact False.elim (by rw [c96] at c114; cases c114)
          · skip
            refine tj_iconst 100 dL_ends_99 rfl ?_
            refine ev_goto 104 dL_ends_100 (by decide) ?_
            refine tj_iadd 105 dL_ends_104 rfl ?_
            have htr := wo_tri hW.1 r51 j (by omega) (by omega)
            refine tv_iast 106 hT (tv50 hT hn5) (fun _ => rfl) (j) (by omega) (by omega) (by omega) (by first | exact TR.rng hT _ _ _ | exact R31_of _ | exact bi_R _ | assumption | (constructor <;> omega)) dL_ends_105 rfl (fun h hT => ?_)
            obtain ⟨X1, hX1⟩ : ∃ Z, Z = xs X 50 0 j (X 9 r51 j + 1) := ⟨_, rfl⟩
            rw [← hX1] at hT
            have hW1 : WX ν X1 := by rw [hX1]; exact wx_cg hW (fun kk hk => xs_nk (by omega))
            have hW := hW1
            have eC1 : nC X1 = 5 := by rw [← eC, hX1]; unfold nC; rw [xs_nk (by decide)]
            have eS1 : nS X1 = 5 := by rw [← eS, hX1]; unfold nS; rw [xs_nk (by decide)]
            have htk : tak X1 r51 j = tak X r51 j := by rw [hX1, tak_k (xs_nk (by decide)) r51]
            have hd1 : 20 < X1 0 0 5 := by rw [hX1, xs_nk (by decide), hk 0 (by decide) (by decide)]; exact hd0
            have h7j : X1 7 r51 j = -1 := by rw [hX1, xs_nk (by decide)]; exact h7 j (by omega) (by omega)
            refine ev_ald0 107 dL_ends_106 rfl ?_
            refine ev_ild5 109 dL_ends_107 rfl ?_
            refine ev_ild6 111 dL_ends_109 rfl ?_
            refine tc_V2 114 13 dL_ends_111 lkv_L_154 (tr0 hT) rfl rfl (by first | decide | omega) (Nat.le_of_ble_eq_true rfl) (c_X11_isEnrolled_ok hT hW (by omega) (by omega)) ?_
            rw [htk]
            refine tb_if_eq 141 117 dL_ends_114 (by decide) rfl (fun c114 => ?_) (fun c114 => ?_)
            · exact False.elim (by rw [c96] at c114; cases c114)
            · skip
              refine ev_ald0 118 dL_ends_117 rfl ?_
              refine ev_ild5 120 dL_ends_118 rfl ?_
              refine ev_ild6 122 dL_ends_120 rfl ?_
              refine ev_ild2 123 dL_ends_122 rfl ?_
              refine tj_iconst 124 dL_ends_123 rfl ?_
              refine ev_ild6 126 dL_ends_124 rfl ?_
              refine tj_iadd 127 dL_ends_126 rfl ?_
              refine ev_ishr 128 dL_ends_127 rfl ?_
              refine tj_bipush 130 dL_ends_128 (by decide) rfl ?_
              refine ly_low (101) 133 dL_ends_130 lks_L_50 (by omega) (by omega) (by omega) rfl (by first | decide | omega) (Nat.le_of_ble_eq_true rfl) (fun r130 hr130 => ?_)
              refine tm_V3 136 13 dL_ends_133 lkv_L_175 (tr0 hT) rfl rfl (by first | decide | omega) (Nat.le_of_ble_eq_true rfl) (c_X11_mark_ok hT hW1 (by omega) (by omega) ⟨by omega, by omega⟩ (by rw [htk]; exact c96) ⟨by omega, by omega⟩ hd1) (fun h X2 hT hP => ?_)
              obtain ⟨hX2, hW2⟩ := hP
              refine tb_if_eq 141 139 dL_ends_136 (by decide) rfl (fun c136 => ?_) (fun c136 => ?_)
              · skip
                have hk2 : ∀ k, k ≠ 7 → k ≠ 50 → X2 k = O k := fun k h7 h50 => by rw [hX2, xs_nk h7, hX1, xs_nk h50]; exact hk k h7 h50
                have h502 : ∀ i : Nat, i < j + 1 → X2 50 0 i = O 9 r51 i + bi (tak O r51 i) := fun i hi => by
                          rw [hX2, xs_nk (by decide), hX1, xs_all]
                          by_cases e : i = j
                          · subst e; rw [if_pos ⟨rfl, rfl, rfl⟩, h9, ← htO, c96]; rfl
                          · rw [if_neg (fun z => e z.2.2)]; exact h50 i (by omega)
                have h72 : ∀ i : Nat, j + 1 ≤ i → i < 5 → X2 7 r51 i = -1 := fun i hi h5 => by rw [hX2, xs_all, if_neg (fun z => by have := z.2.2; omega), hX1, xs_nk (by decide)]; exact h7 i (by omega) h5
                refine tj_inc6 144 dL_ends_141 rfl (by decide) rfl ?_
                refine ev_goto 59 dL_ends_144 (by decide) ?_
                exact ev_mono (by omega) (by omega) (ih59 (j + 1) _ _ _ _ _ _ _ (by omega) hT (by first | omega | assumption | exact fun k _ _ => rfl | exact fun i hi => absurd hi (Nat.not_lt_zero _) | exact fun i _ h5 => h70 _ _ hr51 h5 | (rw [sm_s]; omega) | exact ⟨Int.le_refl _, Int.le_refl _⟩) (by first | omega | assumption | exact fun k _ _ => rfl | exact fun i hi => absurd hi (Nat.not_lt_zero _) | exact fun i _ h5 => h70 _ _ hr51 h5 | (rw [sm_s]; omega) | exact ⟨Int.le_refl _, Int.le_refl _⟩) (by first | omega | assumption | exact fun k _ _ => rfl | exact fun i hi => absurd hi (Nat.not_lt_zero _) | exact fun i _ h5 => h70 _ _ hr51 h5 | (rw [sm_s]; omega) | exact ⟨Int.le_refl _, Int.le_refl _⟩) (by first | omega | assumption | exact fun k _ _ => rfl | exact fun i hi => absurd hi (Nat.not_lt_zero _) | exact fun i _ h5 => h70 _ _ hr51 h5 | (rw [sm_s]; omega) | exact ⟨Int.le_refl _, Int.le_refl _⟩) (by first | omega | assumption | exact fun k _ _ => rfl | exact fun i hi => absurd hi (Nat.not_lt_zero _) | exact fun i _ h5 => h70 _ _ hr51 h5 | (rw [sm_s]; omega) | exact ⟨Int.le_refl _, Int.le_refl _⟩) (by first | omega | assumption | exact fun k _ _ => rfl | exact fun i hi => absurd hi (Nat.not_lt_zero _) | exact fun i _ h5 => h70 _ _ hr51 h5 | (rw [sm_s]; omega) | exact ⟨Int.le_refl _, Int.le_refl _⟩) (by first | omega | assumption | exact fun k _ _ => rfl | exact fun i hi => absurd hi (Nat.not_lt_zero _) | exact fun i _ h5 => h70 _ _ hr51 h5 | (rw [sm_s]; omega) | exact ⟨Int.le_refl _, Int.le_refl _⟩) (by first | omega | assumption | exact fun k _ _ => rfl | exact fun i hi => absurd hi (Nat.not_lt_zero _) | exact fun i _ h5 => h70 _ _ hr51 h5 | (rw [sm_s]; omega) | exact ⟨Int.le_refl _, Int.le_refl _⟩) (by first | rfl | omega | (first | rfl | (rw [sm_s, hej]))) (by first | rfl | omega | (first | rfl | (rw [sm_s, hej]))))
              · exact False.elim (by rw [h7j] at c136; cases c136)
    exact ev_mono (by omega) (by omega) (lp59 _ (0) _ _ _ _ _ _ _ (Nat.lt_succ_self _) hT (by first | omega | assumption | exact fun k _ _ => rfl | exact fun i hi => absurd hi (Nat.not_lt_zero _) | exact fun i _ h5 => h70 _ _ hr51 h5 | (rw [sm_s]; omega) | exact ⟨Int.le_refl _, Int.le_refl _⟩) (by first | omega | assumption | exact fun k _ _ => rfl | exact fun i hi => absurd hi (Nat.not_lt_zero _) | exact fun i _ h5 => h70 _ _ hr51 h5 | (rw [sm_s]; omega) | exact ⟨Int.le_refl _, Int.le_refl _⟩) (by first | omega | assumption | exact fun k _ _ => rfl | exact fun i hi => absurd hi (Nat.not_lt_zero _) | exact fun i _ h5 => h70 _ _ hr51 h5 | (rw [sm_s]; omega) | exact ⟨Int.le_refl _, Int.le_refl _⟩) (by first | omega | assumption | exact fun k _ _ => rfl | exact fun i hi => absurd hi (Nat.not_lt_zero _) | exact fun i _ h5 => h70 _ _ hr51 h5 | (rw [sm_s]; omega) | exact ⟨Int.le_refl _, Int.le_refl _⟩) (by first | omega | assumption | exact fun k _ _ => rfl | exact fun i hi => absurd hi (Nat.not_lt_zero _) | exact fun i _ h5 => h70 _ _ hr51 h5 | (rw [sm_s]; omega) | exact ⟨Int.le_refl _, Int.le_refl _⟩) (by first | omega | assumption | exact fun k _ _ => rfl | exact fun i hi => absurd hi (Nat.not_lt_zero _) | exact fun i _ h5 => h70 _ _ hr51 h5 | (rw [sm_s]; omega) | exact ⟨Int.le_refl _, Int.le_refl _⟩) (by first | omega | assumption | exact fun k _ _ => rfl | exact fun i hi => absurd hi (Nat.not_lt_zero _) | exact fun i _ h5 => h70 _ _ hr51 h5 | (rw [sm_s]; omega) | exact ⟨Int.le_refl _, Int.le_refl _⟩) (by first | omega | assumption | exact fun k _ _ => rfl | exact fun i hi => absurd hi (Nat.not_lt_zero _) | exact fun i _ h5 => h70 _ _ hr51 h5 | (rw [sm_s]; omega) | exact ⟨Int.le_refl _, Int.le_refl _⟩) (by first | rfl | omega | (first | rfl | (rw [sm_s, hej]))) (by first | rfl | omega | (first | rfl | (rw [sm_s, hej]))))
  · skip
    refine ev_ald0 10 dL_ends_9 rfl ?_
    refine tj_iconst 11 dL_ends_10 rfl ?_
    refine ev_ild2 12 dL_ends_11 rfl ?_
    refine tj_bipush 14 dL_ends_12 (by decide) rfl ?_
    refine ly_low (8) 17 dL_ends_14 lks_L_50 (by omega) (by omega) (by omega) rfl (by first | decide | omega) (Nat.le_of_ble_eq_true rfl) (fun r14 hr14 => ?_)
    refine tj_iadd 18 dL_ends_17 rfl ?_
    refine tj_bipush 20 dL_ends_18 (by decide) rfl ?_
    refine ev_ald0 21 dL_ends_20 rfl ?_
    refine tc_V0 24 13 dL_ends_21 lkv_L_157 (tr0 hT) rfl rfl (by first | decide | omega) (Nat.le_of_ble_eq_true rfl) (c_X11_day_ok hT hW) ?_
    refine tj_isub 25 dL_ends_24 rfl ?_
    refine tj_mmin 28 dL_ends_25 mmin_L_72 (by decide) (Nat.le_of_ble_eq_true rfl) rfl (by first | exact TR.rng hT _ _ _ | exact R31_of _ | exact bi_R _ | assumption | (constructor <;> omega)) (by first | exact TR.rng hT _ _ _ | exact R31_of _ | exact bi_R _ | assumption | (constructor <;> omega)) ?_
    obtain ⟨n, hn⟩ : ∃ n : Nat, (if 30 - X 0 0 5 < 1 + (r14 : Int) then 30 - X 0 0 5 else 1 + (r14 : Int)) = (n : Int) := ⟨_, (Int.toNat_of_nonneg (by split <;> omega)).symm⟩
    rw [hn]
    have hn1 : 1 ≤ n ∧ (n : Int) ≤ 30 - X 0 0 5 := by constructor <;> (split at hn <;> omega)
    refine tm_V1 31 13 dL_ends_28 lkv_L_172 (tr0 hT) rfl rfl (by first | decide | omega) (Nat.le_of_ble_eq_true rfl) (c_X11_pass_ok hT hW hn1.1 hn1.2) (fun h X2 hT hP => ?_)
    have hI2 := INV_ps hI (n := n) (by omega)
    rw [← hP.1] at hI2
    refine tj_if_le 38 34 dL_ends_31 (by decide) rfl (by first | exact TR.rng hT _ _ _ | exact R31_of _ | exact bi_R _ | assumption | (constructor <;> omega)) (fun c31 => ?_) (fun c31 => ?_)
    · exact False.elim (by omega)
    · skip
      refine tj_iconst 35 dL_ends_34 rfl ?_
      refine ev_goto 39 dL_ends_35 (by decide) ?_
      exact lz_ret (p := true) (by first | rfl | omega | exact bi_dt (by omega) | exact bi_df (by omega) | (rfl)) hT (by exact ⟨rfl, rfl, PRE_e hI2.1 (by omega), hI2.2⟩) rfl dL_ends_39
