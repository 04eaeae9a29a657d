/-! THE OFFICE COMES TO BE -/
theorem lkn_L_39 : LKn RL 39 M_X12_init 0 "PrereqsLaw" := ⟨rfl, List.mem_of_getElem? (i := 427) (by decide +kernel), List.mem_of_getElem? (i := 429) (by decide +kernel), List.mem_of_getElem? (i := 49) (by decide +kernel), by decide, by decide +kernel, by decide +kernel, by decide +kernel⟩
theorem im_X12_init : Cond.instanceMethod yX12_init ∈ lw_tbl := List.mem_of_getElem? (i := 428) (by decide +kernel)
set_option maxRecDepth 100000 in
set_option maxHeartbeats 4000000 in
theorem L_office8 {g : Gt} {α : AL} {ν : Nat → Nat → Bool} {X : XM} {h : AH} {Q : RT → AH → Prop} {q0 q1 : Nat} (hl : (gX g).2.1 ≤ 260) (hT : TR g α ν X h) (hI : OFI 0 0 0 ν X) (e0 : α 0 0 = q0) (e40 : α 40 0 = q1) (hQ : ∀ α' ν' X' h', α' 0 0 = q0 → TR g α' ν' X' h' → OFI 5 5 12 ν' X' → Q (.inl (some (.ref (α' 40 0)))) h') : Ev g M_L_office 100 8 [some (.ref (α 0 0)), some (.ref (gX g).1), some (.ref (α 40 0)), none, none, none] [] h 184 3260 Q := by
  refine tj_iconst 9 dL_office_8 rfl ?_
  refine ev_ist3 10 dL_office_9 rfl (by decide) rfl ?_
  refine tj_iconst 11 dL_office_10 rfl ?_
  refine ev_ist4 13 dL_office_11 rfl (by decide) rfl ?_
  have lp13 : ∀ (n13 : Nat) (c : Nat) (z4 : Int) (o5 : Option Value) (h : AH) (α : AL) (ν : Nat → Nat → Bool) (X : XM), 6 - c < n13 → TR g α ν X h → (c ≤ 5) → (OFI c 0 0 ν X) → (α 0 0 = q0) → (α 40 0 = q1) → z4 = (c : Int) → Ev g M_L_office 100 13 [some (.ref (α 0 0)), some (.ref (gX g).1), some (.ref (α 40 0)), some (.int (J 1)), some (.int (J z4)), o5] [] h (4 * (5 - c) + 164) (113 * (5 - c) + 2695) Q := by
    intro n13
    induction n13 with
    | zero => intro c z4 o5 h α ν X hm; exact absurd hm (Nat.not_lt_zero _)
    | succ n13 ih13 =>
      intro c z4 o5 h α ν X hm13 hT hc hI e0 e40 e4
      subst e4
      refine ev_ild4 15 dL_office_13 rfl ?_
      refine tj_iconst 16 dL_office_15 rfl ?_
      refine tj_icmp_ge 105 19 dL_office_16 (by decide) rfl (by first | exact TR.rng hT _ _ _ | exact R31_of _ | exact bi_R _ | assumption | (constructor <;> omega)) (by first | exact TR.rng hT _ _ _ | exact R31_of _ | exact bi_R _ | assumption | (constructor <;> omega)) (fun c16 => ?_) (fun c16 => ?_)
      · skip
        obtain rfl : c = 5 := by omega
        refine tj_iconst 106 dL_office_105 rfl ?_
        refine ev_ist4 108 dL_office_106 rfl (by decide) rfl ?_
        have lp108 : ∀ (n108 : Nat) (k : Nat) (z4 : Int) (o5 : Option Value) (h : AH) (α : AL) (ν : Nat → Nat → Bool) (X : XM), 6 - k < n108 → TR g α ν X h → (k ≤ 5) → (OFI 5 k 0 ν X) → (α 0 0 = q0) → (α 40 0 = q1) → z4 = (k : Int) → Ev g M_L_office 100 108 [some (.ref (α 0 0)), some (.ref (gX g).1), some (.ref (α 40 0)), some (.int (J 1)), some (.int (J z4)), o5] [] h (28 * (5 - k) + 24) (287 * (5 - k) + 1260) Q := by
          intro n108
          induction n108 with
          | zero => intro k z4 o5 h α ν X hm; exact absurd hm (Nat.not_lt_zero _)
          | succ n108 ih108 =>
            intro k z4 o5 h α ν X hm108 hT hk hI e0 e40 e4
            subst e4
            refine ev_ild4 110 dL_office_108 rfl ?_
            refine tj_iconst 111 dL_office_110 rfl ?_
            refine tj_icmp_ge 167 114 dL_office_111 (by decide) rfl (by first | exact TR.rng hT _ _ _ | exact R31_of _ | exact bi_R _ | assumption | (constructor <;> omega)) (by first | exact TR.rng hT _ _ _ | exact R31_of _ | exact bi_R _ | assumption | (constructor <;> omega)) (fun c111 => ?_) (fun c111 => ?_)
            · skip
              obtain rfl : k = 5 := by omega
              refine tj_iconst 168 dL_office_167 rfl ?_
              refine ev_ist4 170 dL_office_168 rfl (by decide) rfl ?_
              have lp170 : ∀ (n170 : Nat) (f : Nat) (z4 : Int) (o5 : Option Value) (h : AH) (α : AL) (ν : Nat → Nat → Bool) (X : XM), 13 - f < n170 → TR g α ν X h → (f ≤ 12) → (OFI 5 5 f ν X) → (α 0 0 = q0) → (α 40 0 = q1) → z4 = (f : Int) → Ev g M_L_office 100 170 [some (.ref (α 0 0)), some (.ref (gX g).1), some (.ref (α 40 0)), some (.int (J 1)), some (.int (J z4)), o5] [] h (2 * (12 - f)) (105 * (12 - f)) Q := by
                intro n170
                induction n170 with
                | zero => intro f z4 o5 h α ν X hm; exact absurd hm (Nat.not_lt_zero _)
                | succ n170 ih170 =>
                  intro f z4 o5 h α ν X hm170 hT hf hI e0 e40 e4
                  subst e4
                  refine ev_ild4 172 dL_office_170 rfl ?_
                  refine tj_bipush 174 dL_office_172 (by decide) rfl ?_
                  refine tj_icmp_ge 407 177 dL_office_174 (by decide) rfl (by first | exact TR.rng hT _ _ _ | exact R31_of _ | exact bi_R _ | assumption | (constructor <;> omega)) (by first | exact TR.rng hT _ _ _ | exact R31_of _ | exact bi_R _ | assumption | (constructor <;> omega)) (fun c174 => ?_) (fun c174 => ?_)
                  · skip
                    obtain rfl : f = 12 := by omega
                    refine ev_ild3 408 dL_office_407 rfl ?_
                    refine tj_if_eq 415 411 dL_office_408 (by decide) rfl (by first | exact TR.rng hT _ _ _ | exact R31_of _ | exact bi_R _ | assumption | (constructor <;> omega)) (fun c408 => ?_) (fun c408 => ?_)
                    · exact False.elim (by omega)
                    · skip
                      refine ev_ald2 412 dL_office_411 rfl ?_
                      refine ev_goto 416 dL_office_412 (by decide) ?_
                      exact ev_areturn (hQ _ _ _ _ e0 hT hI) rfl dL_office_416
                  · skip
                    refine ev_ild3 178 dL_office_177 rfl ?_
                    refine tj_if_eq 407 181 dL_office_178 (by decide) rfl (by first | exact TR.rng hT _ _ _ | exact R31_of _ | exact bi_R _ | assumption | (constructor <;> omega)) (fun c178 => ?_) (fun c178 => ?_)
                    · exact False.elim (by omega)
                    · skip
                      refine ev_ald1 182 dL_office_181 rfl ?_
                      refine tj_iconst 183 dL_office_182 rfl ?_
                      refine ev_ild4 185 dL_office_183 rfl ?_
                      refine tj_iadd 186 dL_office_185 rfl ?_
                      refine ly_cell ((3 + f)) 189 hl dL_office_186 lks_L_44 (by omega) (by omega) rfl (by first | decide | omega) (Nat.le_of_ble_eq_true rfl) (fun x186 => ?_)
                      refine ev_ist5 191 dL_office_189 rfl (by decide) rfl ?_
                      refine ev_ald2 192 dL_office_191 rfl ?_
                      refine ev_getfieldN 195 14 0 fln_L_66 (tr40 hT) rfl dL_office_192 rfl ?_
                      refine ev_ild4 197 dL_office_195 rfl ?_
                      refine ev_ild4 199 dL_office_197 rfl ?_
                      refine tj_iconst 200 dL_office_199 rfl ?_
                      refine tj_icmp_ge 212 203 dL_office_200 (by decide) rfl (by first | exact TR.rng hT _ _ _ | exact R31_of _ | exact bi_R _ | assumption | (constructor <;> omega)) (by first | exact TR.rng hT _ _ _ | exact R31_of _ | exact bi_R _ | assumption | (constructor <;> omega)) (fun c200 => ?_) (fun c200 => ?_)
                      · skip
                        refine ev_ild5 214 dL_office_212 rfl ?_
                        refine tj_bipush 216 dL_office_214 (by decide) rfl ?_
                        refine ly_low (7) 219 dL_office_216 lks_L_50 (by omega) (by omega) (by omega) rfl (by first | decide | omega) (Nat.le_of_ble_eq_true rfl) (fun r216 hr216 => ?_)
                        refine tv_iast 220 hT (tv41 hT) (fun _ => rfl) (f) (by omega) (by omega) (by omega) (by first | exact TR.rng hT _ _ _ | exact R31_of _ | exact bi_R _ | assumption | (constructor <;> omega)) dL_office_219 rfl (fun h hT => ?_)
                        obtain ⟨X1, hX1⟩ : ∃ Z, Z = xs X 41 0 f ((r216 : Int)) := ⟨_, rfl⟩
                        rw [← hX1] at hT
                        have hI1 : OFI 5 5 f ν X1 := by rw [hX1]; exact OFI_xs hI (by decide) (by omega) (by omega) (by omega)
                        have v41 : X1 41 0 f = (r216 : Int) := by rw [hX1, xs_all, if_pos ⟨rfl, rfl, rfl⟩]
                        refine ev_ald2 221 dL_office_220 rfl ?_
                        refine ev_getfieldN 224 14 1 fln_L_69 (tr40 hT) rfl dL_office_221 rfl ?_
                        refine ev_ild4 226 dL_office_224 rfl ?_
                        refine ev_ald2 227 dL_office_226 rfl ?_
                        refine ev_getfieldN 230 14 0 fln_L_66 (tr40 hT) rfl dL_office_227 rfl ?_
                        refine ev_ild4 232 dL_office_230 rfl ?_
                        refine tv_iald 233 (tr41 hT) (f) (by omega) (by omega) (by omega) dL_office_232 rfl ?_
                        refine tj_iconst 234 dL_office_233 rfl ?_
                        refine tj_icmp_ne 249 237 dL_office_234 (by decide) rfl (by first | exact TR.rng hT _ _ _ | exact R31_of _ | exact bi_R _ | assumption | (constructor <;> omega)) (by first | exact TR.rng hT _ _ _ | exact R31_of _ | exact bi_R _ | assumption | (constructor <;> omega)) (fun c234 => ?_) (fun c234 => ?_)
                        · skip
                          refine ev_ald2 250 dL_office_249 rfl ?_
                          refine ev_getfieldN 253 14 0 fln_L_66 (tr40 hT) rfl dL_office_250 rfl ?_
                          refine ev_ild4 255 dL_office_253 rfl ?_
                          refine tv_iald 256 (tr41 hT) (f) (by omega) (by omega) (by omega) dL_office_255 rfl ?_
                          refine tj_iconst 257 dL_office_256 rfl ?_
                          refine tj_icmp_ge 271 260 dL_office_257 (by decide) rfl (by first | exact TR.rng hT _ _ _ | exact R31_of _ | exact bi_R _ | assumption | (constructor <;> omega)) (by first | exact TR.rng hT _ _ _ | exact R31_of _ | exact bi_R _ | assumption | (constructor <;> omega)) (fun c257 => ?_) (fun c257 => ?_)
                          · skip
                            refine ev_ild5 273 dL_office_271 rfl ?_
                            refine tj_iconst 274 dL_office_273 rfl ?_
                            refine ev_ishr 275 dL_office_274 rfl ?_
                            refine ev_ild4 277 dL_office_275 rfl ?_
                            refine tj_bipush 279 dL_office_277 (by decide) rfl ?_
                            refine tj_mmin 282 dL_office_279 mmin_L_72 (by decide) (Nat.le_of_ble_eq_true rfl) rfl (by first | exact TR.rng hT _ _ _ | exact R31_of _ | exact bi_R _ | assumption | (constructor <;> omega)) (by first | exact TR.rng hT _ _ _ | exact R31_of _ | exact bi_R _ | assumption | (constructor <;> omega)) ?_
                            obtain ⟨m282, hm282⟩ : ∃ m : Nat, (if (6 : Int) < (f : Int) then (6 : Int) else (f : Int)) = (m : Int) := ⟨_, (Int.toNat_of_nonneg (by split <;> omega)).symm⟩
                            rw [hm282]
                            have hb282 : 0 < m282 ∧ m282 ≤ f ∧ m282 ≤ 6 := by refine ⟨?_, ?_, ?_⟩ <;> (split at hm282 <;> omega)
                            refine ly_low (m282) 285 dL_office_282 lks_L_50 (by omega) (by omega) (by omega) rfl (by first | decide | omega) (Nat.le_of_ble_eq_true rfl) (fun r282 hr282 => ?_)
                            refine tv_iast 286 hT (tv42 hT) (fun _ => rfl) (f) (by omega) (by omega) (by omega) (by first | exact TR.rng hT _ _ _ | exact R31_of _ | exact bi_R _ | assumption | (constructor <;> omega)) dL_office_285 rfl (fun h hT => ?_)
                            obtain ⟨X2, hX2⟩ : ∃ Z, Z = xs X1 42 0 f ((r282 : Int)) := ⟨_, rfl⟩
                            rw [← hX2] at hT
                            have hI2 : OFI 5 5 f ν X2 := by rw [hX2]; exact OFI_xs hI1 (by decide) (by omega) (by omega) (by omega)
                            have v42 : X2 42 0 f = (r282 : Int) := by rw [hX2, xs_all, if_pos ⟨rfl, rfl, rfl⟩]
                            have v41 : X2 41 0 f = _ := (congrFun (congrFun (by rw [hX2]; exact xs_nk (by decide) : X2 41 = X1 41) 0) f).trans v41
                            refine ev_ald2 287 dL_office_286 rfl ?_
                            refine ev_getfieldN 290 14 2 fln_L_77 (tr40 hT) rfl dL_office_287 rfl ?_
                            refine ev_ild4 292 dL_office_290 rfl ?_
                            refine ev_ald2 293 dL_office_292 rfl ?_
                            refine ev_getfieldN 296 14 0 fln_L_66 (tr40 hT) rfl dL_office_293 rfl ?_
                            refine ev_ild4 298 dL_office_296 rfl ?_
                            refine tv_iald 299 (tr41 hT) (f) (by omega) (by omega) (by omega) dL_office_298 rfl ?_
                            refine tj_if_ne 315 302 dL_office_299 (by decide) rfl (by first | exact TR.rng hT _ _ _ | exact R31_of _ | exact bi_R _ | assumption | (constructor <;> omega)) (fun c299 => ?_) (fun c299 => ?_)
                            · skip
                              refine ev_ald2 316 dL_office_315 rfl ?_
                              refine ev_getfieldN 319 14 0 fln_L_66 (tr40 hT) rfl dL_office_316 rfl ?_
                              refine ev_ild4 321 dL_office_319 rfl ?_
                              refine tv_iald 322 (tr41 hT) (f) (by omega) (by omega) (by omega) dL_office_321 rfl ?_
                              refine tj_iconst 323 dL_office_322 rfl ?_
                              refine tj_icmp_ge 330 326 dL_office_323 (by decide) rfl (by first | exact TR.rng hT _ _ _ | exact R31_of _ | exact bi_R _ | assumption | (constructor <;> omega)) (by first | exact TR.rng hT _ _ _ | exact R31_of _ | exact bi_R _ | assumption | (constructor <;> omega)) (fun c323 => ?_) (fun c323 => ?_)
                              · skip
                                refine ev_ild5 332 dL_office_330 rfl ?_
                                refine tj_bipush 334 dL_office_332 (by decide) rfl ?_
                                refine ev_ishr 335 dL_office_334 rfl ?_
                                refine ev_ild4 337 dL_office_335 rfl ?_
                                refine tj_bipush 339 dL_office_337 (by decide) rfl ?_
                                refine tj_mmin 342 dL_office_339 mmin_L_72 (by decide) (Nat.le_of_ble_eq_true rfl) rfl (by first | exact TR.rng hT _ _ _ | exact R31_of _ | exact bi_R _ | assumption | (constructor <;> omega)) (by first | exact TR.rng hT _ _ _ | exact R31_of _ | exact bi_R _ | assumption | (constructor <;> omega)) ?_
                                obtain ⟨m342, hm342⟩ : ∃ m : Nat, (if (6 : Int) < (f : Int) then (6 : Int) else (f : Int)) = (m : Int) := ⟨_, (Int.toNat_of_nonneg (by split <;> omega)).symm⟩
                                rw [hm342]
                                have hb342 : 0 < m342 ∧ m342 ≤ f ∧ m342 ≤ 6 := by refine ⟨?_, ?_, ?_⟩ <;> (split at hm342 <;> omega)
                                refine ly_low (m342) 345 dL_office_342 lks_L_50 (by omega) (by omega) (by omega) rfl (by first | decide | omega) (Nat.le_of_ble_eq_true rfl) (fun r342 hr342 => ?_)
                                refine tv_iast 346 hT (tv43 hT) (fun _ => rfl) (f) (by omega) (by omega) (by omega) (by first | exact TR.rng hT _ _ _ | exact R31_of _ | exact bi_R _ | assumption | (constructor <;> omega)) dL_office_345 rfl (fun h hT => ?_)
                                obtain ⟨X3, hX3⟩ : ∃ Z, Z = xs X2 43 0 f ((r342 : Int)) := ⟨_, rfl⟩
                                rw [← hX3] at hT
                                have hI3 : OFI 5 5 f ν X3 := by rw [hX3]; exact OFI_xs hI2 (by decide) (by omega) (by omega) (by omega)
                                have v43 : X3 43 0 f = (r342 : Int) := by rw [hX3, xs_all, if_pos ⟨rfl, rfl, rfl⟩]
                                have v41 : X3 41 0 f = _ := (congrFun (congrFun (by rw [hX3]; exact xs_nk (by decide) : X3 41 = X2 41) 0) f).trans v41
                                have v42 : X3 42 0 f = _ := (congrFun (congrFun (by rw [hX3]; exact xs_nk (by decide) : X3 42 = X2 42) 0) f).trans v42
                                refine ev_ald2 347 dL_office_346 rfl ?_
                                refine ev_getfieldN 350 14 3 fln_L_80 (tr40 hT) rfl dL_office_347 rfl ?_
                                refine ev_ild4 352 dL_office_350 rfl ?_
                                refine ev_ald2 353 dL_office_352 rfl ?_
                                refine ev_getfieldN 356 14 0 fln_L_66 (tr40 hT) rfl dL_office_353 rfl ?_
                                refine ev_ild4 358 dL_office_356 rfl ?_
                                refine tv_iald 359 (tr41 hT) (f) (by omega) (by omega) (by omega) dL_office_358 rfl ?_
                                refine tj_iconst 360 dL_office_359 rfl ?_
                                refine tj_icmp_ge 367 363 dL_office_360 (by decide) rfl (by first | exact TR.rng hT _ _ _ | exact R31_of _ | exact bi_R _ | assumption | (constructor <;> omega)) (by first | exact TR.rng hT _ _ _ | exact R31_of _ | exact bi_R _ | assumption | (constructor <;> omega)) (fun c360 => ?_) (fun c360 => ?_)
                                · skip
                                  refine ev_ild5 369 dL_office_367 rfl ?_
                                  refine tj_bipush 371 dL_office_369 (by decide) rfl ?_
                                  refine ev_ishr 372 dL_office_371 rfl ?_
                                  refine ev_ild4 374 dL_office_372 rfl ?_
                                  refine tj_bipush 376 dL_office_374 (by decide) rfl ?_
                                  refine tj_mmin 379 dL_office_376 mmin_L_72 (by decide) (Nat.le_of_ble_eq_true rfl) rfl (by first | exact TR.rng hT _ _ _ | exact R31_of _ | exact bi_R _ | assumption | (constructor <;> omega)) (by first | exact TR.rng hT _ _ _ | exact R31_of _ | exact bi_R _ | assumption | (constructor <;> omega)) ?_
                                  obtain ⟨m379, hm379⟩ : ∃ m : Nat, (if (6 : Int) < (f : Int) then (6 : Int) else (f : Int)) = (m : Int) := ⟨_, (Int.toNat_of_nonneg (by split <;> omega)).symm⟩
                                  rw [hm379]
                                  have hb379 : 0 < m379 ∧ m379 ≤ f ∧ m379 ≤ 6 := by refine ⟨?_, ?_, ?_⟩ <;> (split at hm379 <;> omega)
                                  refine ly_low (m379) 382 dL_office_379 lks_L_50 (by omega) (by omega) (by omega) rfl (by first | decide | omega) (Nat.le_of_ble_eq_true rfl) (fun r379 hr379 => ?_)
                                  refine tv_iast 383 hT (tv44 hT) (fun _ => rfl) (f) (by omega) (by omega) (by omega) (by first | exact TR.rng hT _ _ _ | exact R31_of _ | exact bi_R _ | assumption | (constructor <;> omega)) dL_office_382 rfl (fun h hT => ?_)
                                  obtain ⟨X4, hX4⟩ : ∃ Z, Z = xs X3 44 0 f ((r379 : Int)) := ⟨_, rfl⟩
                                  rw [← hX4] at hT
                                  have hI4 : OFI 5 5 f ν X4 := by rw [hX4]; exact OFI_xs hI3 (by decide) (by omega) (by omega) (by omega)
                                  have v44 : X4 44 0 f = (r379 : Int) := by rw [hX4, xs_all, if_pos ⟨rfl, rfl, rfl⟩]
                                  have v41 : X4 41 0 f = _ := (congrFun (congrFun (by rw [hX4]; exact xs_nk (by decide) : X4 41 = X3 41) 0) f).trans v41
                                  have v42 : X4 42 0 f = _ := (congrFun (congrFun (by rw [hX4]; exact xs_nk (by decide) : X4 42 = X3 42) 0) f).trans v42
                                  have v43 : X4 43 0 f = _ := (congrFun (congrFun (by rw [hX4]; exact xs_nk (by decide) : X4 43 = X3 43) 0) f).trans v43
                                  have hFP : FPre X4 f := by unfold FPre; omega
                                  refine ev_ald0 384 dL_office_383 rfl ?_
                                  refine ev_ald2 385 dL_office_384 rfl ?_
                                  refine ev_ild4 387 dL_office_385 rfl ?_
                                  refine tl_S (2 * (12 - (f + 1))) (105 * (12 - (f + 1))) 390 dL_office_387 lks_L_83 (c_L_adds hT hI4 (by omega) hFP) (by first | decide | omega) rfl rfl (Nat.le_of_ble_eq_true rfl) rfl (by omega) (by omega) (fun h α ν X hT hP387 => ?_)
                                  obtain ⟨f0, f40, hI⟩ := hP387
                                  have e0 := f0.trans e0
                                  have e40 := f40.trans e40
                                  rw [← f0, ← f40]
                                  refine ev_ild4 392 dL_office_390 rfl ?_
                                  refine tj_icmp_ne 399 395 dL_office_392 (by decide) rfl (by first | exact TR.rng hT _ _ _ | exact R31_of _ | exact bi_R _ | assumption | (constructor <;> omega)) (by first | exact TR.rng hT _ _ _ | exact R31_of _ | exact bi_R _ | assumption | (constructor <;> omega)) (fun c392 => ?_) (fun c392 => ?_)
                                  · exact False.elim (c392 rfl)
                                  · skip
                                    refine tj_iconst 396 dL_office_395 rfl ?_
                                    refine ev_goto 400 dL_office_396 (by decide) ?_
                                    refine ev_ist3 401 dL_office_400 rfl (by decide) rfl ?_
                                    refine tj_inc4 404 dL_office_401 rfl (by decide) rfl ?_
                                    refine ev_goto 170 dL_office_404 (by decide) ?_
                                    exact ev_mono (by omega) (by omega) (ih170 (f + 1) _ _ _ _ _ _ (by omega) hT (by first | omega | assumption | omega) (by first | omega | assumption | omega) (by first | omega | assumption | omega) (by first | omega | assumption | omega) (by first | rfl | omega | (omega)))
                                · exact False.elim (by omega)
                              · exact False.elim (by omega)
                            · exact False.elim (by omega)
                          · skip
                            refine ev_ild5 262 dL_office_260 rfl ?_
                            refine tj_iconst 263 dL_office_262 rfl ?_
                            refine ev_ishr 264 dL_office_263 rfl ?_
                            refine tj_iconst 265 dL_office_264 rfl ?_
                            refine ly_low (5) 268 dL_office_265 lks_L_50 (by omega) (by omega) (by omega) rfl (by first | decide | omega) (Nat.le_of_ble_eq_true rfl) (fun r265 hr265 => ?_)
                            refine ev_goto 285 dL_office_268 (by decide) ?_
                            refine tv_iast 286 hT (tv42 hT) (fun _ => rfl) (f) (by omega) (by omega) (by omega) (by first | exact TR.rng hT _ _ _ | exact R31_of _ | exact bi_R _ | assumption | (constructor <;> omega)) dL_office_285 rfl (fun h hT => ?_)
                            obtain ⟨X2, hX2⟩ : ∃ Z, Z = xs X1 42 0 f ((r265 : Int)) := ⟨_, rfl⟩
                            rw [← hX2] at hT
                            have hI2 : OFI 5 5 f ν X2 := by rw [hX2]; exact OFI_xs hI1 (by decide) (by omega) (by omega) (by omega)
                            have v42 : X2 42 0 f = (r265 : Int) := by rw [hX2, xs_all, if_pos ⟨rfl, rfl, rfl⟩]
                            have v41 : X2 41 0 f = _ := (congrFun (congrFun (by rw [hX2]; exact xs_nk (by decide) : X2 41 = X1 41) 0) f).trans v41
                            refine ev_ald2 287 dL_office_286 rfl ?_
                            refine ev_getfieldN 290 14 2 fln_L_77 (tr40 hT) rfl dL_office_287 rfl ?_
                            refine ev_ild4 292 dL_office_290 rfl ?_
                            refine ev_ald2 293 dL_office_292 rfl ?_
                            refine ev_getfieldN 296 14 0 fln_L_66 (tr40 hT) rfl dL_office_293 rfl ?_
                            refine ev_ild4 298 dL_office_296 rfl ?_
                            refine tv_iald 299 (tr41 hT) (f) (by omega) (by omega) (by omega) dL_office_298 rfl ?_
                            refine tj_if_ne 315 302 dL_office_299 (by decide) rfl (by first | exact TR.rng hT _ _ _ | exact R31_of _ | exact bi_R _ | assumption | (constructor <;> omega)) (fun c299 => ?_) (fun c299 => ?_)
                            · skip
                              refine ev_ald2 316 dL_office_315 rfl ?_
                              refine ev_getfieldN 319 14 0 fln_L_66 (tr40 hT) rfl dL_office_316 rfl ?_
                              refine ev_ild4 321 dL_office_319 rfl ?_
                              refine tv_iald 322 (tr41 hT) (f) (by omega) (by omega) (by omega) dL_office_321 rfl ?_
                              refine tj_iconst 323 dL_office_322 rfl ?_
                              refine tj_icmp_ge 330 326 dL_office_323 (by decide) rfl (by first | exact TR.rng hT _ _ _ | exact R31_of _ | exact bi_R _ | assumption | (constructor <;> omega)) (by first | exact TR.rng hT _ _ _ | exact R31_of _ | exact bi_R _ | assumption | (constructor <;> omega)) (fun c323 => ?_) (fun c323 => ?_)
                              · exact False.elim (by omega)
                              · skip
                                refine tj_iconst 327 dL_office_326 rfl ?_
                                refine ev_goto 345 dL_office_327 (by decide) ?_
                                refine tv_iast 346 hT (tv43 hT) (fun _ => rfl) (f) (by omega) (by omega) (by omega) (by first | exact TR.rng hT _ _ _ | exact R31_of _ | exact bi_R _ | assumption | (constructor <;> omega)) dL_office_345 rfl (fun h hT => ?_)
                                obtain ⟨X3, hX3⟩ : ∃ Z, Z = xs X2 43 0 f (0) := ⟨_, rfl⟩
                                rw [← hX3] at hT
                                have hI3 : OFI 5 5 f ν X3 := by rw [hX3]; exact OFI_xs hI2 (by decide) (by omega) (by omega) (by omega)
                                have v43 : X3 43 0 f = 0 := by rw [hX3, xs_all, if_pos ⟨rfl, rfl, rfl⟩]
                                have v41 : X3 41 0 f = _ := (congrFun (congrFun (by rw [hX3]; exact xs_nk (by decide) : X3 41 = X2 41) 0) f).trans v41
                                have v42 : X3 42 0 f = _ := (congrFun (congrFun (by rw [hX3]; exact xs_nk (by decide) : X3 42 = X2 42) 0) f).trans v42
                                refine ev_ald2 347 dL_office_346 rfl ?_
                                refine ev_getfieldN 350 14 3 fln_L_80 (tr40 hT) rfl dL_office_347 rfl ?_
                                refine ev_ild4 352 dL_office_350 rfl ?_
                                refine ev_ald2 353 dL_office_352 rfl ?_
                                refine ev_getfieldN 356 14 0 fln_L_66 (tr40 hT) rfl dL_office_353 rfl ?_
                                refine ev_ild4 358 dL_office_356 rfl ?_
                                refine tv_iald 359 (tr41 hT) (f) (by omega) (by omega) (by omega) dL_office_358 rfl ?_
                                refine tj_iconst 360 dL_office_359 rfl ?_
                                refine tj_icmp_ge 367 363 dL_office_360 (by decide) rfl (by first | exact TR.rng hT _ _ _ | exact R31_of _ | exact bi_R _ | assumption | (constructor <;> omega)) (by first | exact TR.rng hT _ _ _ | exact R31_of _ | exact bi_R _ | assumption | (constructor <;> omega)) (fun c360 => ?_) (fun c360 => ?_)
                                · exact False.elim (by omega)
                                · skip
                                  refine tj_iconst 364 dL_office_363 rfl ?_
                                  refine ev_goto 382 dL_office_364 (by decide) ?_
                                  refine tv_iast 383 hT (tv44 hT) (fun _ => rfl) (f) (by omega) (by omega) (by omega) (by first | exact TR.rng hT _ _ _ | exact R31_of _ | exact bi_R _ | assumption | (constructor <;> omega)) dL_office_382 rfl (fun h hT => ?_)
                                  obtain ⟨X4, hX4⟩ : ∃ Z, Z = xs X3 44 0 f (0) := ⟨_, rfl⟩
                                  rw [← hX4] at hT
                                  have hI4 : OFI 5 5 f ν X4 := by rw [hX4]; exact OFI_xs hI3 (by decide) (by omega) (by omega) (by omega)
                                  have v44 : X4 44 0 f = 0 := by rw [hX4, xs_all, if_pos ⟨rfl, rfl, rfl⟩]
                                  have v41 : X4 41 0 f = _ := (congrFun (congrFun (by rw [hX4]; exact xs_nk (by decide) : X4 41 = X3 41) 0) f).trans v41
                                  have v42 : X4 42 0 f = _ := (congrFun (congrFun (by rw [hX4]; exact xs_nk (by decide) : X4 42 = X3 42) 0) f).trans v42
                                  have v43 : X4 43 0 f = _ := (congrFun (congrFun (by rw [hX4]; exact xs_nk (by decide) : X4 43 = X3 43) 0) f).trans v43
                                  have hFP : FPre X4 f := by unfold FPre; omega
                                  refine ev_ald0 384 dL_office_383 rfl ?_
                                  refine ev_ald2 385 dL_office_384 rfl ?_
                                  refine ev_ild4 387 dL_office_385 rfl ?_
                                  refine tl_S (2 * (12 - (f + 1))) (105 * (12 - (f + 1))) 390 dL_office_387 lks_L_83 (c_L_adds hT hI4 (by omega) hFP) (by first | decide | omega) rfl rfl (Nat.le_of_ble_eq_true rfl) rfl (by omega) (by omega) (fun h α ν X hT hP387 => ?_)
                                  obtain ⟨f0, f40, hI⟩ := hP387
                                  have e0 := f0.trans e0
                                  have e40 := f40.trans e40
                                  rw [← f0, ← f40]
                                  refine ev_ild4 392 dL_office_390 rfl ?_
                                  refine tj_icmp_ne 399 395 dL_office_392 (by decide) rfl (by first | exact TR.rng hT _ _ _ | exact R31_of _ | exact bi_R _ | assumption | (constructor <;> omega)) (by first | exact TR.rng hT _ _ _ | exact R31_of _ | exact bi_R _ | assumption | (constructor <;> omega)) (fun c392 => ?_) (fun c392 => ?_)
                                  · exact False.elim (c392 rfl)
                                  · skip
                                    refine tj_iconst 396 dL_office_395 rfl ?_
                                    refine ev_goto 400 dL_office_396 (by decide) ?_
                                    refine ev_ist3 401 dL_office_400 rfl (by decide) rfl ?_
                                    refine tj_inc4 404 dL_office_401 rfl (by decide) rfl ?_
                                    refine ev_goto 170 dL_office_404 (by decide) ?_
                                    exact ev_mono (by omega) (by omega) (ih170 (f + 1) _ _ _ _ _ _ (by omega) hT (by first | omega | assumption | omega) (by first | omega | assumption | omega) (by first | omega | assumption | omega) (by first | omega | assumption | omega) (by first | rfl | omega | (omega)))
                            · skip
                              refine ev_ild5 304 dL_office_302 rfl ?_
                              refine tj_bipush 306 dL_office_304 (by decide) rfl ?_
                              refine ev_ishr 307 dL_office_306 rfl ?_
                              refine tj_bipush 309 dL_office_307 (by decide) rfl ?_
                              refine ly_low (101) 312 dL_office_309 lks_L_50 (by omega) (by omega) (by omega) rfl (by first | decide | omega) (Nat.le_of_ble_eq_true rfl) (fun r309 hr309 => ?_)
                              refine ev_goto 345 dL_office_312 (by decide) ?_
                              refine tv_iast 346 hT (tv43 hT) (fun _ => rfl) (f) (by omega) (by omega) (by omega) (by first | exact TR.rng hT _ _ _ | exact R31_of _ | exact bi_R _ | assumption | (constructor <;> omega)) dL_office_345 rfl (fun h hT => ?_)
                              obtain ⟨X3, hX3⟩ : ∃ Z, Z = xs X2 43 0 f ((r309 : Int)) := ⟨_, rfl⟩
                              rw [← hX3] at hT
                              have hI3 : OFI 5 5 f ν X3 := by rw [hX3]; exact OFI_xs hI2 (by decide) (by omega) (by omega) (by omega)
                              have v43 : X3 43 0 f = (r309 : Int) := by rw [hX3, xs_all, if_pos ⟨rfl, rfl, rfl⟩]
                              have v41 : X3 41 0 f = _ := (congrFun (congrFun (by rw [hX3]; exact xs_nk (by decide) : X3 41 = X2 41) 0) f).trans v41
                              have v42 : X3 42 0 f = _ := (congrFun (congrFun (by rw [hX3]; exact xs_nk (by decide) : X3 42 = X2 42) 0) f).trans v42
                              refine ev_ald2 347 dL_office_346 rfl ?_
                              refine ev_getfieldN 350 14 3 fln_L_80 (tr40 hT) rfl dL_office_347 rfl ?_
                              refine ev_ild4 352 dL_office_350 rfl ?_
                              refine ev_ald2 353 dL_office_352 rfl ?_
                              refine ev_getfieldN 356 14 0 fln_L_66 (tr40 hT) rfl dL_office_353 rfl ?_
                              refine ev_ild4 358 dL_office_356 rfl ?_
                              refine tv_iald 359 (tr41 hT) (f) (by omega) (by omega) (by omega) dL_office_358 rfl ?_
                              refine tj_iconst 360 dL_office_359 rfl ?_
                              refine tj_icmp_ge 367 363 dL_office_360 (by decide) rfl (by first | exact TR.rng hT _ _ _ | exact R31_of _ | exact bi_R _ | assumption | (constructor <;> omega)) (by first | exact TR.rng hT _ _ _ | exact R31_of _ | exact bi_R _ | assumption | (constructor <;> omega)) (fun c360 => ?_) (fun c360 => ?_)
                              · exact False.elim (by omega)
                              · skip
                                refine tj_iconst 364 dL_office_363 rfl ?_
                                refine ev_goto 382 dL_office_364 (by decide) ?_
                                refine tv_iast 383 hT (tv44 hT) (fun _ => rfl) (f) (by omega) (by omega) (by omega) (by first | exact TR.rng hT _ _ _ | exact R31_of _ | exact bi_R _ | assumption | (constructor <;> omega)) dL_office_382 rfl (fun h hT => ?_)
                                obtain ⟨X4, hX4⟩ : ∃ Z, Z = xs X3 44 0 f (0) := ⟨_, rfl⟩
                                rw [← hX4] at hT
                                have hI4 : OFI 5 5 f ν X4 := by rw [hX4]; exact OFI_xs hI3 (by decide) (by omega) (by omega) (by omega)
                                have v44 : X4 44 0 f = 0 := by rw [hX4, xs_all, if_pos ⟨rfl, rfl, rfl⟩]
                                have v41 : X4 41 0 f = _ := (congrFun (congrFun (by rw [hX4]; exact xs_nk (by decide) : X4 41 = X3 41) 0) f).trans v41
                                have v42 : X4 42 0 f = _ := (congrFun (congrFun (by rw [hX4]; exact xs_nk (by decide) : X4 42 = X3 42) 0) f).trans v42
                                have v43 : X4 43 0 f = _ := (congrFun (congrFun (by rw [hX4]; exact xs_nk (by decide) : X4 43 = X3 43) 0) f).trans v43
                                have hFP : FPre X4 f := by unfold FPre; omega
                                refine ev_ald0 384 dL_office_383 rfl ?_
                                refine ev_ald2 385 dL_office_384 rfl ?_
                                refine ev_ild4 387 dL_office_385 rfl ?_
                                refine tl_S (2 * (12 - (f + 1))) (105 * (12 - (f + 1))) 390 dL_office_387 lks_L_83 (c_L_adds hT hI4 (by omega) hFP) (by first | decide | omega) rfl rfl (Nat.le_of_ble_eq_true rfl) rfl (by omega) (by omega) (fun h α ν X hT hP387 => ?_)
                                obtain ⟨f0, f40, hI⟩ := hP387
                                have e0 := f0.trans e0
                                have e40 := f40.trans e40
                                rw [← f0, ← f40]
                                refine ev_ild4 392 dL_office_390 rfl ?_
                                refine tj_icmp_ne 399 395 dL_office_392 (by decide) rfl (by first | exact TR.rng hT _ _ _ | exact R31_of _ | exact bi_R _ | assumption | (constructor <;> omega)) (by first | exact TR.rng hT _ _ _ | exact R31_of _ | exact bi_R _ | assumption | (constructor <;> omega)) (fun c392 => ?_) (fun c392 => ?_)
                                · exact False.elim (c392 rfl)
                                · skip
                                  refine tj_iconst 396 dL_office_395 rfl ?_
                                  refine ev_goto 400 dL_office_396 (by decide) ?_
                                  refine ev_ist3 401 dL_office_400 rfl (by decide) rfl ?_
                                  refine tj_inc4 404 dL_office_401 rfl (by decide) rfl ?_
                                  refine ev_goto 170 dL_office_404 (by decide) ?_
                                  exact ev_mono (by omega) (by omega) (ih170 (f + 1) _ _ _ _ _ _ (by omega) hT (by first | omega | assumption | omega) (by first | omega | assumption | omega) (by first | omega | assumption | omega) (by first | omega | assumption | omega) (by first | rfl | omega | (omega)))
                        · skip
                          refine ev_ild5 239 dL_office_237 rfl ?_
                          refine tj_iconst 240 dL_office_239 rfl ?_
                          refine ev_ishr 241 dL_office_240 rfl ?_
                          refine tj_bipush 243 dL_office_241 (by decide) rfl ?_
                          refine ly_low (9) 246 dL_office_243 lks_L_50 (by omega) (by omega) (by omega) rfl (by first | decide | omega) (Nat.le_of_ble_eq_true rfl) (fun r243 hr243 => ?_)
                          refine ev_goto 285 dL_office_246 (by decide) ?_
                          refine tv_iast 286 hT (tv42 hT) (fun _ => rfl) (f) (by omega) (by omega) (by omega) (by first | exact TR.rng hT _ _ _ | exact R31_of _ | exact bi_R _ | assumption | (constructor <;> omega)) dL_office_285 rfl (fun h hT => ?_)
                          obtain ⟨X2, hX2⟩ : ∃ Z, Z = xs X1 42 0 f ((r243 : Int)) := ⟨_, rfl⟩
                          rw [← hX2] at hT
                          have hI2 : OFI 5 5 f ν X2 := by rw [hX2]; exact OFI_xs hI1 (by decide) (by omega) (by omega) (by omega)
                          have v42 : X2 42 0 f = (r243 : Int) := by rw [hX2, xs_all, if_pos ⟨rfl, rfl, rfl⟩]
                          have v41 : X2 41 0 f = _ := (congrFun (congrFun (by rw [hX2]; exact xs_nk (by decide) : X2 41 = X1 41) 0) f).trans v41
                          refine ev_ald2 287 dL_office_286 rfl ?_
                          refine ev_getfieldN 290 14 2 fln_L_77 (tr40 hT) rfl dL_office_287 rfl ?_
                          refine ev_ild4 292 dL_office_290 rfl ?_
                          refine ev_ald2 293 dL_office_292 rfl ?_
                          refine ev_getfieldN 296 14 0 fln_L_66 (tr40 hT) rfl dL_office_293 rfl ?_
                          refine ev_ild4 298 dL_office_296 rfl ?_
                          refine tv_iald 299 (tr41 hT) (f) (by omega) (by omega) (by omega) dL_office_298 rfl ?_
                          refine tj_if_ne 315 302 dL_office_299 (by decide) rfl (by first | exact TR.rng hT _ _ _ | exact R31_of _ | exact bi_R _ | assumption | (constructor <;> omega)) (fun c299 => ?_) (fun c299 => ?_)
                          · skip
                            refine ev_ald2 316 dL_office_315 rfl ?_
                            refine ev_getfieldN 319 14 0 fln_L_66 (tr40 hT) rfl dL_office_316 rfl ?_
                            refine ev_ild4 321 dL_office_319 rfl ?_
                            refine tv_iald 322 (tr41 hT) (f) (by omega) (by omega) (by omega) dL_office_321 rfl ?_
                            refine tj_iconst 323 dL_office_322 rfl ?_
                            refine tj_icmp_ge 330 326 dL_office_323 (by decide) rfl (by first | exact TR.rng hT _ _ _ | exact R31_of _ | exact bi_R _ | assumption | (constructor <;> omega)) (by first | exact TR.rng hT _ _ _ | exact R31_of _ | exact bi_R _ | assumption | (constructor <;> omega)) (fun c323 => ?_) (fun c323 => ?_)
                            · exact False.elim (by omega)
                            · skip
                              refine tj_iconst 327 dL_office_326 rfl ?_
                              refine ev_goto 345 dL_office_327 (by decide) ?_
                              refine tv_iast 346 hT (tv43 hT) (fun _ => rfl) (f) (by omega) (by omega) (by omega) (by first | exact TR.rng hT _ _ _ | exact R31_of _ | exact bi_R _ | assumption | (constructor <;> omega)) dL_office_345 rfl (fun h hT => ?_)
                              obtain ⟨X3, hX3⟩ : ∃ Z, Z = xs X2 43 0 f (0) := ⟨_, rfl⟩
                              rw [← hX3] at hT
                              have hI3 : OFI 5 5 f ν X3 := by rw [hX3]; exact OFI_xs hI2 (by decide) (by omega) (by omega) (by omega)
                              have v43 : X3 43 0 f = 0 := by rw [hX3, xs_all, if_pos ⟨rfl, rfl, rfl⟩]
                              have v41 : X3 41 0 f = _ := (congrFun (congrFun (by rw [hX3]; exact xs_nk (by decide) : X3 41 = X2 41) 0) f).trans v41
                              have v42 : X3 42 0 f = _ := (congrFun (congrFun (by rw [hX3]; exact xs_nk (by decide) : X3 42 = X2 42) 0) f).trans v42
                              refine ev_ald2 347 dL_office_346 rfl ?_
                              refine ev_getfieldN 350 14 3 fln_L_80 (tr40 hT) rfl dL_office_347 rfl ?_
                              refine ev_ild4 352 dL_office_350 rfl ?_
                              refine ev_ald2 353 dL_office_352 rfl ?_
                              refine ev_getfieldN 356 14 0 fln_L_66 (tr40 hT) rfl dL_office_353 rfl ?_
                              refine ev_ild4 358 dL_office_356 rfl ?_
                              refine tv_iald 359 (tr41 hT) (f) (by omega) (by omega) (by omega) dL_office_358 rfl ?_
                              refine tj_iconst 360 dL_office_359 rfl ?_
                              refine tj_icmp_ge 367 363 dL_office_360 (by decide) rfl (by first | exact TR.rng hT _ _ _ | exact R31_of _ | exact bi_R _ | assumption | (constructor <;> omega)) (by first | exact TR.rng hT _ _ _ | exact R31_of _ | exact bi_R _ | assumption | (constructor <;> omega)) (fun c360 => ?_) (fun c360 => ?_)
                              · exact False.elim (by omega)
                              · skip
                                refine tj_iconst 364 dL_office_363 rfl ?_
                                refine ev_goto 382 dL_office_364 (by decide) ?_
                                refine tv_iast 383 hT (tv44 hT) (fun _ => rfl) (f) (by omega) (by omega) (by omega) (by first | exact TR.rng hT _ _ _ | exact R31_of _ | exact bi_R _ | assumption | (constructor <;> omega)) dL_office_382 rfl (fun h hT => ?_)
                                obtain ⟨X4, hX4⟩ : ∃ Z, Z = xs X3 44 0 f (0) := ⟨_, rfl⟩
                                rw [← hX4] at hT
                                have hI4 : OFI 5 5 f ν X4 := by rw [hX4]; exact OFI_xs hI3 (by decide) (by omega) (by omega) (by omega)
                                have v44 : X4 44 0 f = 0 := by rw [hX4, xs_all, if_pos ⟨rfl, rfl, rfl⟩]
                                have v41 : X4 41 0 f = _ := (congrFun (congrFun (by rw [hX4]; exact xs_nk (by decide) : X4 41 = X3 41) 0) f).trans v41
                                have v42 : X4 42 0 f = _ := (congrFun (congrFun (by rw [hX4]; exact xs_nk (by decide) : X4 42 = X3 42) 0) f).trans v42
                                have v43 : X4 43 0 f = _ := (congrFun (congrFun (by rw [hX4]; exact xs_nk (by decide) : X4 43 = X3 43) 0) f).trans v43
                                have hFP : FPre X4 f := by unfold FPre; omega
                                refine ev_ald0 384 dL_office_383 rfl ?_
                                refine ev_ald2 385 dL_office_384 rfl ?_
                                refine ev_ild4 387 dL_office_385 rfl ?_
                                refine tl_S (2 * (12 - (f + 1))) (105 * (12 - (f + 1))) 390 dL_office_387 lks_L_83 (c_L_adds hT hI4 (by omega) hFP) (by first | decide | omega) rfl rfl (Nat.le_of_ble_eq_true rfl) rfl (by omega) (by omega) (fun h α ν X hT hP387 => ?_)
                                obtain ⟨f0, f40, hI⟩ := hP387
                                have e0 := f0.trans e0
                                have e40 := f40.trans e40
                                rw [← f0, ← f40]
                                refine ev_ild4 392 dL_office_390 rfl ?_
                                refine tj_icmp_ne 399 395 dL_office_392 (by decide) rfl (by first | exact TR.rng hT _ _ _ | exact R31_of _ | exact bi_R _ | assumption | (constructor <;> omega)) (by first | exact TR.rng hT _ _ _ | exact R31_of _ | exact bi_R _ | assumption | (constructor <;> omega)) (fun c392 => ?_) (fun c392 => ?_)
                                · exact False.elim (c392 rfl)
                                · skip
                                  refine tj_iconst 396 dL_office_395 rfl ?_
                                  refine ev_goto 400 dL_office_396 (by decide) ?_
                                  refine ev_ist3 401 dL_office_400 rfl (by decide) rfl ?_
                                  refine tj_inc4 404 dL_office_401 rfl (by decide) rfl ?_
                                  refine ev_goto 170 dL_office_404 (by decide) ?_
                                  exact ev_mono (by omega) (by omega) (ih170 (f + 1) _ _ _ _ _ _ (by omega) hT (by first | omega | assumption | omega) (by first | omega | assumption | omega) (by first | omega | assumption | omega) (by first | omega | assumption | omega) (by first | rfl | omega | (omega)))
                          · exact False.elim (by omega)
                      · skip
                        refine ev_ild5 205 dL_office_203 rfl ?_
                        refine tj_iconst 206 dL_office_205 rfl ?_
                        refine ly_low (3) 209 dL_office_206 lks_L_50 (by omega) (by omega) (by omega) rfl (by first | decide | omega) (Nat.le_of_ble_eq_true rfl) (fun r206 hr206 => ?_)
                        refine ev_goto 219 dL_office_209 (by decide) ?_
                        refine tv_iast 220 hT (tv41 hT) (fun _ => rfl) (f) (by omega) (by omega) (by omega) (by first | exact TR.rng hT _ _ _ | exact R31_of _ | exact bi_R _ | assumption | (constructor <;> omega)) dL_office_219 rfl (fun h hT => ?_)
                        obtain ⟨X1, hX1⟩ : ∃ Z, Z = xs X 41 0 f ((r206 : Int)) := ⟨_, rfl⟩
                        rw [← hX1] at hT
                        have hI1 : OFI 5 5 f ν X1 := by rw [hX1]; exact OFI_xs hI (by decide) (by omega) (by omega) (by omega)
                        have v41 : X1 41 0 f = (r206 : Int) := by rw [hX1, xs_all, if_pos ⟨rfl, rfl, rfl⟩]
                        refine ev_ald2 221 dL_office_220 rfl ?_
                        refine ev_getfieldN 224 14 1 fln_L_69 (tr40 hT) rfl dL_office_221 rfl ?_
                        refine ev_ild4 226 dL_office_224 rfl ?_
                        refine ev_ald2 227 dL_office_226 rfl ?_
                        refine ev_getfieldN 230 14 0 fln_L_66 (tr40 hT) rfl dL_office_227 rfl ?_
                        refine ev_ild4 232 dL_office_230 rfl ?_
                        refine tv_iald 233 (tr41 hT) (f) (by omega) (by omega) (by omega) dL_office_232 rfl ?_
                        refine tj_iconst 234 dL_office_233 rfl ?_
                        refine tj_icmp_ne 249 237 dL_office_234 (by decide) rfl (by first | exact TR.rng hT _ _ _ | exact R31_of _ | exact bi_R _ | assumption | (constructor <;> omega)) (by first | exact TR.rng hT _ _ _ | exact R31_of _ | exact bi_R _ | assumption | (constructor <;> omega)) (fun c234 => ?_) (fun c234 => ?_)
                        · skip
                          refine ev_ald2 250 dL_office_249 rfl ?_
                          refine ev_getfieldN 253 14 0 fln_L_66 (tr40 hT) rfl dL_office_250 rfl ?_
                          refine ev_ild4 255 dL_office_253 rfl ?_
                          refine tv_iald 256 (tr41 hT) (f) (by omega) (by omega) (by omega) dL_office_255 rfl ?_
                          refine tj_iconst 257 dL_office_256 rfl ?_
                          refine tj_icmp_ge 271 260 dL_office_257 (by decide) rfl (by first | exact TR.rng hT _ _ _ | exact R31_of _ | exact bi_R _ | assumption | (constructor <;> omega)) (by first | exact TR.rng hT _ _ _ | exact R31_of _ | exact bi_R _ | assumption | (constructor <;> omega)) (fun c257 => ?_) (fun c257 => ?_)
                          · exact False.elim (by omega)
                          · skip
                            refine ev_ild5 262 dL_office_260 rfl ?_
                            refine tj_iconst 263 dL_office_262 rfl ?_
                            refine ev_ishr 264 dL_office_263 rfl ?_
                            refine tj_iconst 265 dL_office_264 rfl ?_
                            refine ly_low (5) 268 dL_office_265 lks_L_50 (by omega) (by omega) (by omega) rfl (by first | decide | omega) (Nat.le_of_ble_eq_true rfl) (fun r265 hr265 => ?_)
                            refine ev_goto 285 dL_office_268 (by decide) ?_
                            refine tv_iast 286 hT (tv42 hT) (fun _ => rfl) (f) (by omega) (by omega) (by omega) (by first | exact TR.rng hT _ _ _ | exact R31_of _ | exact bi_R _ | assumption | (constructor <;> omega)) dL_office_285 rfl (fun h hT => ?_)
                            obtain ⟨X2, hX2⟩ : ∃ Z, Z = xs X1 42 0 f ((r265 : Int)) := ⟨_, rfl⟩
                            rw [← hX2] at hT
                            have hI2 : OFI 5 5 f ν X2 := by rw [hX2]; exact OFI_xs hI1 (by decide) (by omega) (by omega) (by omega)
                            have v42 : X2 42 0 f = (r265 : Int) := by rw [hX2, xs_all, if_pos ⟨rfl, rfl, rfl⟩]
                            have v41 : X2 41 0 f = _ := (congrFun (congrFun (by rw [hX2]; exact xs_nk (by decide) : X2 41 = X1 41) 0) f).trans v41
                            refine ev_ald2 287 dL_office_286 rfl ?_
                            refine ev_getfieldN 290 14 2 fln_L_77 (tr40 hT) rfl dL_office_287 rfl ?_
                            refine ev_ild4 292 dL_office_290 rfl ?_
                            refine ev_ald2 293 dL_office_292 rfl ?_
                            refine ev_getfieldN 296 14 0 fln_L_66 (tr40 hT) rfl dL_office_293 rfl ?_
                            refine ev_ild4 298 dL_office_296 rfl ?_
                            refine tv_iald 299 (tr41 hT) (f) (by omega) (by omega) (by omega) dL_office_298 rfl ?_
                            refine tj_if_ne 315 302 dL_office_299 (by decide) rfl (by first | exact TR.rng hT _ _ _ | exact R31_of _ | exact bi_R _ | assumption | (constructor <;> omega)) (fun c299 => ?_) (fun c299 => ?_)
                            · skip
                              refine ev_ald2 316 dL_office_315 rfl ?_
                              refine ev_getfieldN 319 14 0 fln_L_66 (tr40 hT) rfl dL_office_316 rfl ?_
                              refine ev_ild4 321 dL_office_319 rfl ?_
                              refine tv_iald 322 (tr41 hT) (f) (by omega) (by omega) (by omega) dL_office_321 rfl ?_
                              refine tj_iconst 323 dL_office_322 rfl ?_
                              refine tj_icmp_ge 330 326 dL_office_323 (by decide) rfl (by first | exact TR.rng hT _ _ _ | exact R31_of _ | exact bi_R _ | assumption | (constructor <;> omega)) (by first | exact TR.rng hT _ _ _ | exact R31_of _ | exact bi_R _ | assumption | (constructor <;> omega)) (fun c323 => ?_) (fun c323 => ?_)
                              · exact False.elim (by omega)
                              · skip
                                refine tj_iconst 327 dL_office_326 rfl ?_
                                refine ev_goto 345 dL_office_327 (by decide) ?_
                                refine tv_iast 346 hT (tv43 hT) (fun _ => rfl) (f) (by omega) (by omega) (by omega) (by first | exact TR.rng hT _ _ _ | exact R31_of _ | exact bi_R _ | assumption | (constructor <;> omega)) dL_office_345 rfl (fun h hT => ?_)
                                obtain ⟨X3, hX3⟩ : ∃ Z, Z = xs X2 43 0 f (0) := ⟨_, rfl⟩
                                rw [← hX3] at hT
                                have hI3 : OFI 5 5 f ν X3 := by rw [hX3]; exact OFI_xs hI2 (by decide) (by omega) (by omega) (by omega)
                                have v43 : X3 43 0 f = 0 := by rw [hX3, xs_all, if_pos ⟨rfl, rfl, rfl⟩]
                                have v41 : X3 41 0 f = _ := (congrFun (congrFun (by rw [hX3]; exact xs_nk (by decide) : X3 41 = X2 41) 0) f).trans v41
                                have v42 : X3 42 0 f = _ := (congrFun (congrFun (by rw [hX3]; exact xs_nk (by decide) : X3 42 = X2 42) 0) f).trans v42
                                refine ev_ald2 347 dL_office_346 rfl ?_
                                refine ev_getfieldN 350 14 3 fln_L_80 (tr40 hT) rfl dL_office_347 rfl ?_
                                refine ev_ild4 352 dL_office_350 rfl ?_
                                refine ev_ald2 353 dL_office_352 rfl ?_
                                refine ev_getfieldN 356 14 0 fln_L_66 (tr40 hT) rfl dL_office_353 rfl ?_
                                refine ev_ild4 358 dL_office_356 rfl ?_
                                refine tv_iald 359 (tr41 hT) (f) (by omega) (by omega) (by omega) dL_office_358 rfl ?_
                                refine tj_iconst 360 dL_office_359 rfl ?_
                                refine tj_icmp_ge 367 363 dL_office_360 (by decide) rfl (by first | exact TR.rng hT _ _ _ | exact R31_of _ | exact bi_R _ | assumption | (constructor <;> omega)) (by first | exact TR.rng hT _ _ _ | exact R31_of _ | exact bi_R _ | assumption | (constructor <;> omega)) (fun c360 => ?_) (fun c360 => ?_)
                                · exact False.elim (by omega)
                                · skip
                                  refine tj_iconst 364 dL_office_363 rfl ?_
                                  refine ev_goto 382 dL_office_364 (by decide) ?_
                                  refine tv_iast 383 hT (tv44 hT) (fun _ => rfl) (f) (by omega) (by omega) (by omega) (by first | exact TR.rng hT _ _ _ | exact R31_of _ | exact bi_R _ | assumption | (constructor <;> omega)) dL_office_382 rfl (fun h hT => ?_)
                                  obtain ⟨X4, hX4⟩ : ∃ Z, Z = xs X3 44 0 f (0) := ⟨_, rfl⟩
                                  rw [← hX4] at hT
                                  have hI4 : OFI 5 5 f ν X4 := by rw [hX4]; exact OFI_xs hI3 (by decide) (by omega) (by omega) (by omega)
                                  have v44 : X4 44 0 f = 0 := by rw [hX4, xs_all, if_pos ⟨rfl, rfl, rfl⟩]
                                  have v41 : X4 41 0 f = _ := (congrFun (congrFun (by rw [hX4]; exact xs_nk (by decide) : X4 41 = X3 41) 0) f).trans v41
                                  have v42 : X4 42 0 f = _ := (congrFun (congrFun (by rw [hX4]; exact xs_nk (by decide) : X4 42 = X3 42) 0) f).trans v42
                                  have v43 : X4 43 0 f = _ := (congrFun (congrFun (by rw [hX4]; exact xs_nk (by decide) : X4 43 = X3 43) 0) f).trans v43
                                  have hFP : FPre X4 f := by unfold FPre; omega
                                  refine ev_ald0 384 dL_office_383 rfl ?_
                                  refine ev_ald2 385 dL_office_384 rfl ?_
                                  refine ev_ild4 387 dL_office_385 rfl ?_
                                  refine tl_S (2 * (12 - (f + 1))) (105 * (12 - (f + 1))) 390 dL_office_387 lks_L_83 (c_L_adds hT hI4 (by omega) hFP) (by first | decide | omega) rfl rfl (Nat.le_of_ble_eq_true rfl) rfl (by omega) (by omega) (fun h α ν X hT hP387 => ?_)
                                  obtain ⟨f0, f40, hI⟩ := hP387
                                  have e0 := f0.trans e0
                                  have e40 := f40.trans e40
                                  rw [← f0, ← f40]
                                  refine ev_ild4 392 dL_office_390 rfl ?_
                                  refine tj_icmp_ne 399 395 dL_office_392 (by decide) rfl (by first | exact TR.rng hT _ _ _ | exact R31_of _ | exact bi_R _ | assumption | (constructor <;> omega)) (by first | exact TR.rng hT _ _ _ | exact R31_of _ | exact bi_R _ | assumption | (constructor <;> omega)) (fun c392 => ?_) (fun c392 => ?_)
                                  · exact False.elim (c392 rfl)
                                  · skip
                                    refine tj_iconst 396 dL_office_395 rfl ?_
                                    refine ev_goto 400 dL_office_396 (by decide) ?_
                                    refine ev_ist3 401 dL_office_400 rfl (by decide) rfl ?_
                                    refine tj_inc4 404 dL_office_401 rfl (by decide) rfl ?_
                                    refine ev_goto 170 dL_office_404 (by decide) ?_
                                    exact ev_mono (by omega) (by omega) (ih170 (f + 1) _ _ _ _ _ _ (by omega) hT (by first | omega | assumption | omega) (by first | omega | assumption | omega) (by first | omega | assumption | omega) (by first | omega | assumption | omega) (by first | rfl | omega | (omega)))
                            · skip
                              refine ev_ild5 304 dL_office_302 rfl ?_
                              refine tj_bipush 306 dL_office_304 (by decide) rfl ?_
                              refine ev_ishr 307 dL_office_306 rfl ?_
                              refine tj_bipush 309 dL_office_307 (by decide) rfl ?_
                              refine ly_low (101) 312 dL_office_309 lks_L_50 (by omega) (by omega) (by omega) rfl (by first | decide | omega) (Nat.le_of_ble_eq_true rfl) (fun r309 hr309 => ?_)
                              refine ev_goto 345 dL_office_312 (by decide) ?_
                              refine tv_iast 346 hT (tv43 hT) (fun _ => rfl) (f) (by omega) (by omega) (by omega) (by first | exact TR.rng hT _ _ _ | exact R31_of _ | exact bi_R _ | assumption | (constructor <;> omega)) dL_office_345 rfl (fun h hT => ?_)
                              obtain ⟨X3, hX3⟩ : ∃ Z, Z = xs X2 43 0 f ((r309 : Int)) := ⟨_, rfl⟩
                              rw [← hX3] at hT
                              have hI3 : OFI 5 5 f ν X3 := by rw [hX3]; exact OFI_xs hI2 (by decide) (by omega) (by omega) (by omega)
                              have v43 : X3 43 0 f = (r309 : Int) := by rw [hX3, xs_all, if_pos ⟨rfl, rfl, rfl⟩]
                              have v41 : X3 41 0 f = _ := (congrFun (congrFun (by rw [hX3]; exact xs_nk (by decide) : X3 41 = X2 41) 0) f).trans v41
                              have v42 : X3 42 0 f = _ := (congrFun (congrFun (by rw [hX3]; exact xs_nk (by decide) : X3 42 = X2 42) 0) f).trans v42
                              refine ev_ald2 347 dL_office_346 rfl ?_
                              refine ev_getfieldN 350 14 3 fln_L_80 (tr40 hT) rfl dL_office_347 rfl ?_
                              refine ev_ild4 352 dL_office_350 rfl ?_
                              refine ev_ald2 353 dL_office_352 rfl ?_
                              refine ev_getfieldN 356 14 0 fln_L_66 (tr40 hT) rfl dL_office_353 rfl ?_
                              refine ev_ild4 358 dL_office_356 rfl ?_
                              refine tv_iald 359 (tr41 hT) (f) (by omega) (by omega) (by omega) dL_office_358 rfl ?_
                              refine tj_iconst 360 dL_office_359 rfl ?_
                              refine tj_icmp_ge 367 363 dL_office_360 (by decide) rfl (by first | exact TR.rng hT _ _ _ | exact R31_of _ | exact bi_R _ | assumption | (constructor <;> omega)) (by first | exact TR.rng hT _ _ _ | exact R31_of _ | exact bi_R _ | assumption | (constructor <;> omega)) (fun c360 => ?_) (fun c360 => ?_)
                              · exact False.elim (by omega)
                              · skip
                                refine tj_iconst 364 dL_office_363 rfl ?_
                                refine ev_goto 382 dL_office_364 (by decide) ?_
                                refine tv_iast 383 hT (tv44 hT) (fun _ => rfl) (f) (by omega) (by omega) (by omega) (by first | exact TR.rng hT _ _ _ | exact R31_of _ | exact bi_R _ | assumption | (constructor <;> omega)) dL_office_382 rfl (fun h hT => ?_)
                                obtain ⟨X4, hX4⟩ : ∃ Z, Z = xs X3 44 0 f (0) := ⟨_, rfl⟩
                                rw [← hX4] at hT
                                have hI4 : OFI 5 5 f ν X4 := by rw [hX4]; exact OFI_xs hI3 (by decide) (by omega) (by omega) (by omega)
                                have v44 : X4 44 0 f = 0 := by rw [hX4, xs_all, if_pos ⟨rfl, rfl, rfl⟩]
                                have v41 : X4 41 0 f = _ := (congrFun (congrFun (by rw [hX4]; exact xs_nk (by decide) : X4 41 = X3 41) 0) f).trans v41
                                have v42 : X4 42 0 f = _ := (congrFun (congrFun (by rw [hX4]; exact xs_nk (by decide) : X4 42 = X3 42) 0) f).trans v42
                                have v43 : X4 43 0 f = _ := (congrFun (congrFun (by rw [hX4]; exact xs_nk (by decide) : X4 43 = X3 43) 0) f).trans v43
                                have hFP : FPre X4 f := by unfold FPre; omega
                                refine ev_ald0 384 dL_office_383 rfl ?_
                                refine ev_ald2 385 dL_office_384 rfl ?_
                                refine ev_ild4 387 dL_office_385 rfl ?_
                                refine tl_S (2 * (12 - (f + 1))) (105 * (12 - (f + 1))) 390 dL_office_387 lks_L_83 (c_L_adds hT hI4 (by omega) hFP) (by first | decide | omega) rfl rfl (Nat.le_of_ble_eq_true rfl) rfl (by omega) (by omega) (fun h α ν X hT hP387 => ?_)
                                obtain ⟨f0, f40, hI⟩ := hP387
                                have e0 := f0.trans e0
                                have e40 := f40.trans e40
                                rw [← f0, ← f40]
                                refine ev_ild4 392 dL_office_390 rfl ?_
                                refine tj_icmp_ne 399 395 dL_office_392 (by decide) rfl (by first | exact TR.rng hT _ _ _ | exact R31_of _ | exact bi_R _ | assumption | (constructor <;> omega)) (by first | exact TR.rng hT _ _ _ | exact R31_of _ | exact bi_R _ | assumption | (constructor <;> omega)) (fun c392 => ?_) (fun c392 => ?_)
                                · exact False.elim (c392 rfl)
                                · skip
                                  refine tj_iconst 396 dL_office_395 rfl ?_
                                  refine ev_goto 400 dL_office_396 (by decide) ?_
                                  refine ev_ist3 401 dL_office_400 rfl (by decide) rfl ?_
                                  refine tj_inc4 404 dL_office_401 rfl (by decide) rfl ?_
                                  refine ev_goto 170 dL_office_404 (by decide) ?_
                                  exact ev_mono (by omega) (by omega) (ih170 (f + 1) _ _ _ _ _ _ (by omega) hT (by first | omega | assumption | omega) (by first | omega | assumption | omega) (by first | omega | assumption | omega) (by first | omega | assumption | omega) (by first | rfl | omega | (omega)))
                        · skip
                          refine ev_ild5 239 dL_office_237 rfl ?_
                          refine tj_iconst 240 dL_office_239 rfl ?_
                          refine ev_ishr 241 dL_office_240 rfl ?_
                          refine tj_bipush 243 dL_office_241 (by decide) rfl ?_
                          refine ly_low (9) 246 dL_office_243 lks_L_50 (by omega) (by omega) (by omega) rfl (by first | decide | omega) (Nat.le_of_ble_eq_true rfl) (fun r243 hr243 => ?_)
                          refine ev_goto 285 dL_office_246 (by decide) ?_
                          refine tv_iast 286 hT (tv42 hT) (fun _ => rfl) (f) (by omega) (by omega) (by omega) (by first | exact TR.rng hT _ _ _ | exact R31_of _ | exact bi_R _ | assumption | (constructor <;> omega)) dL_office_285 rfl (fun h hT => ?_)
                          obtain ⟨X2, hX2⟩ : ∃ Z, Z = xs X1 42 0 f ((r243 : Int)) := ⟨_, rfl⟩
                          rw [← hX2] at hT
                          have hI2 : OFI 5 5 f ν X2 := by rw [hX2]; exact OFI_xs hI1 (by decide) (by omega) (by omega) (by omega)
                          have v42 : X2 42 0 f = (r243 : Int) := by rw [hX2, xs_all, if_pos ⟨rfl, rfl, rfl⟩]
                          have v41 : X2 41 0 f = _ := (congrFun (congrFun (by rw [hX2]; exact xs_nk (by decide) : X2 41 = X1 41) 0) f).trans v41
                          refine ev_ald2 287 dL_office_286 rfl ?_
                          refine ev_getfieldN 290 14 2 fln_L_77 (tr40 hT) rfl dL_office_287 rfl ?_
                          refine ev_ild4 292 dL_office_290 rfl ?_
                          refine ev_ald2 293 dL_office_292 rfl ?_
                          refine ev_getfieldN 296 14 0 fln_L_66 (tr40 hT) rfl dL_office_293 rfl ?_
                          refine ev_ild4 298 dL_office_296 rfl ?_
                          refine tv_iald 299 (tr41 hT) (f) (by omega) (by omega) (by omega) dL_office_298 rfl ?_
                          refine tj_if_ne 315 302 dL_office_299 (by decide) rfl (by first | exact TR.rng hT _ _ _ | exact R31_of _ | exact bi_R _ | assumption | (constructor <;> omega)) (fun c299 => ?_) (fun c299 => ?_)
                          · skip
                            refine ev_ald2 316 dL_office_315 rfl ?_
                            refine ev_getfieldN 319 14 0 fln_L_66 (tr40 hT) rfl dL_office_316 rfl ?_
                            refine ev_ild4 321 dL_office_319 rfl ?_
                            refine tv_iald 322 (tr41 hT) (f) (by omega) (by omega) (by omega) dL_office_321 rfl ?_
                            refine tj_iconst 323 dL_office_322 rfl ?_
                            refine tj_icmp_ge 330 326 dL_office_323 (by decide) rfl (by first | exact TR.rng hT _ _ _ | exact R31_of _ | exact bi_R _ | assumption | (constructor <;> omega)) (by first | exact TR.rng hT _ _ _ | exact R31_of _ | exact bi_R _ | assumption | (constructor <;> omega)) (fun c323 => ?_) (fun c323 => ?_)
                            · exact False.elim (by omega)
                            · skip
                              refine tj_iconst 327 dL_office_326 rfl ?_
                              refine ev_goto 345 dL_office_327 (by decide) ?_
                              refine tv_iast 346 hT (tv43 hT) (fun _ => rfl) (f) (by omega) (by omega) (by omega) (by first | exact TR.rng hT _ _ _ | exact R31_of _ | exact bi_R _ | assumption | (constructor <;> omega)) dL_office_345 rfl (fun h hT => ?_)
                              obtain ⟨X3, hX3⟩ : ∃ Z, Z = xs X2 43 0 f (0) := ⟨_, rfl⟩
                              rw [← hX3] at hT
                              have hI3 : OFI 5 5 f ν X3 := by rw [hX3]; exact OFI_xs hI2 (by decide) (by omega) (by omega) (by omega)
                              have v43 : X3 43 0 f = 0 := by rw [hX3, xs_all, if_pos ⟨rfl, rfl, rfl⟩]
                              have v41 : X3 41 0 f = _ := (congrFun (congrFun (by rw [hX3]; exact xs_nk (by decide) : X3 41 = X2 41) 0) f).trans v41
                              have v42 : X3 42 0 f = _ := (congrFun (congrFun (by rw [hX3]; exact xs_nk (by decide) : X3 42 = X2 42) 0) f).trans v42
                              refine ev_ald2 347 dL_office_346 rfl ?_
                              refine ev_getfieldN 350 14 3 fln_L_80 (tr40 hT) rfl dL_office_347 rfl ?_
                              refine ev_ild4 352 dL_office_350 rfl ?_
                              refine ev_ald2 353 dL_office_352 rfl ?_
                              refine ev_getfieldN 356 14 0 fln_L_66 (tr40 hT) rfl dL_office_353 rfl ?_
                              refine ev_ild4 358 dL_office_356 rfl ?_
                              refine tv_iald 359 (tr41 hT) (f) (by omega) (by omega) (by omega) dL_office_358 rfl ?_
                              refine tj_iconst 360 dL_office_359 rfl ?_
                              refine tj_icmp_ge 367 363 dL_office_360 (by decide) rfl (by first | exact TR.rng hT _ _ _ | exact R31_of _ | exact bi_R _ | assumption | (constructor <;> omega)) (by first | exact TR.rng hT _ _ _ | exact R31_of _ | exact bi_R _ | assumption | (constructor <;> omega)) (fun c360 => ?_) (fun c360 => ?_)
                              · exact False.elim (by omega)
                              · skip
                                refine tj_iconst 364 dL_office_363 rfl ?_
                                refine ev_goto 382 dL_office_364 (by decide) ?_
                                refine tv_iast 383 hT (tv44 hT) (fun _ => rfl) (f) (by omega) (by omega) (by omega) (by first | exact TR.rng hT _ _ _ | exact R31_of _ | exact bi_R _ | assumption | (constructor <;> omega)) dL_office_382 rfl (fun h hT => ?_)
                                obtain ⟨X4, hX4⟩ : ∃ Z, Z = xs X3 44 0 f (0) := ⟨_, rfl⟩
                                rw [← hX4] at hT
                                have hI4 : OFI 5 5 f ν X4 := by rw [hX4]; exact OFI_xs hI3 (by decide) (by omega) (by omega) (by omega)
                                have v44 : X4 44 0 f = 0 := by rw [hX4, xs_all, if_pos ⟨rfl, rfl, rfl⟩]
                                have v41 : X4 41 0 f = _ := (congrFun (congrFun (by rw [hX4]; exact xs_nk (by decide) : X4 41 = X3 41) 0) f).trans v41
                                have v42 : X4 42 0 f = _ := (congrFun (congrFun (by rw [hX4]; exact xs_nk (by decide) : X4 42 = X3 42) 0) f).trans v42
                                have v43 : X4 43 0 f = _ := (congrFun (congrFun (by rw [hX4]; exact xs_nk (by decide) : X4 43 = X3 43) 0) f).trans v43
                                have hFP : FPre X4 f := by unfold FPre; omega
                                refine ev_ald0 384 dL_office_383 rfl ?_
                                refine ev_ald2 385 dL_office_384 rfl ?_
                                refine ev_ild4 387 dL_office_385 rfl ?_
                                refine tl_S (2 * (12 - (f + 1))) (105 * (12 - (f + 1))) 390 dL_office_387 lks_L_83 (c_L_adds hT hI4 (by omega) hFP) (by first | decide | omega) rfl rfl (Nat.le_of_ble_eq_true rfl) rfl (by omega) (by omega) (fun h α ν X hT hP387 => ?_)
                                obtain ⟨f0, f40, hI⟩ := hP387
                                have e0 := f0.trans e0
                                have e40 := f40.trans e40
                                rw [← f0, ← f40]
                                refine ev_ild4 392 dL_office_390 rfl ?_
                                refine tj_icmp_ne 399 395 dL_office_392 (by decide) rfl (by first | exact TR.rng hT _ _ _ | exact R31_of _ | exact bi_R _ | assumption | (constructor <;> omega)) (by first | exact TR.rng hT _ _ _ | exact R31_of _ | exact bi_R _ | assumption | (constructor <;> omega)) (fun c392 => ?_) (fun c392 => ?_)
                                · exact False.elim (c392 rfl)
                                · skip
                                  refine tj_iconst 396 dL_office_395 rfl ?_
                                  refine ev_goto 400 dL_office_396 (by decide) ?_
                                  refine ev_ist3 401 dL_office_400 rfl (by decide) rfl ?_
                                  refine tj_inc4 404 dL_office_401 rfl (by decide) rfl ?_
                                  refine ev_goto 170 dL_office_404 (by decide) ?_
                                  exact ev_mono (by omega) (by omega) (ih170 (f + 1) _ _ _ _ _ _ (by omega) hT (by first | omega | assumption | omega) (by first | omega | assumption | omega) (by first | omega | assumption | omega) (by first | omega | assumption | omega) (by first | rfl | omega | (omega)))
                          · exact False.elim (by omega)
              exact ev_mono (by omega) (by omega) (lp170 _ (0) _ _ _ _ _ _ (Nat.lt_succ_self _) hT (by first | omega | assumption | omega) (by first | omega | assumption | omega) (by first | omega | assumption | omega) (by first | omega | assumption | omega) (by first | rfl | omega | (omega)))
            · skip
              refine ev_ald2 115 dL_office_114 rfl ?_
              refine ev_getfieldN 118 14 8 fln_L_59 (tr40 hT) rfl dL_office_115 rfl ?_
              refine ev_ild4 120 dL_office_118 rfl ?_
              refine ev_ald1 121 dL_office_120 rfl ?_
              refine tj_iconst 122 dL_office_121 rfl ?_
              refine ly_cell (2) 125 hl dL_office_122 lks_L_44 (by omega) (by omega) rfl (by first | decide | omega) (Nat.le_of_ble_eq_true rfl) (fun x122 => ?_)
              refine tj_iconst 126 dL_office_125 rfl ?_
              refine ev_ild4 128 dL_office_126 rfl ?_
              refine tj_imul 129 dL_office_128 rfl ?_
              refine ev_ishr 130 dL_office_129 rfl ?_
              refine tj_iconst 131 dL_office_130 rfl ?_
              refine ly_low (4) 134 dL_office_131 lks_L_50 (by omega) (by omega) (by omega) rfl (by first | decide | omega) (Nat.le_of_ble_eq_true rfl) (fun r131 hr131 => ?_)
              refine tv_iast 135 hT (tv49 hT) (fun _ => rfl) (k) (by omega) (by omega) (by omega) (by first | exact TR.rng hT _ _ _ | exact R31_of _ | exact bi_R _ | assumption | (constructor <;> omega)) dL_office_134 rfl (fun h hT => ?_)
              obtain ⟨X1, hX1⟩ : ∃ Z, Z = xs X 49 0 k (r131 : Int) := ⟨_, rfl⟩
              rw [← hX1] at hT
              have hI1 : OFI 5 k 0 ν X1 := by rw [hX1]; exact OFI_xs hI (by decide) (by omega) (by omega) (by omega)
              have v49 : X1 49 0 k = (r131 : Int) := by rw [hX1, xs_all, if_pos ⟨rfl, rfl, rfl⟩]
              have c2 := hI1.2.2.1.2.1
              refine ev_ild3 136 dL_office_135 rfl ?_
              refine tj_if_eq 159 139 dL_office_136 (by decide) rfl (by first | exact TR.rng hT _ _ _ | exact R31_of _ | exact bi_R _ | assumption | (constructor <;> omega)) (fun c136 => ?_) (fun c136 => ?_)
              · exact False.elim (by omega)
              · skip
                refine ev_ald0 140 dL_office_139 rfl ?_
                refine ev_ald2 141 dL_office_140 rfl ?_
                refine ev_getfieldN 144 14 8 fln_L_59 (tr40 hT) rfl dL_office_141 rfl ?_
                refine ev_ild4 146 dL_office_144 rfl ?_
                refine tv_iald 147 (tr49 hT) (k) (by omega) (by omega) (by omega) dL_office_146 rfl ?_
                refine tl_V (28 * (5 - (k + 1)) + 24) (287 * (5 - (k + 1)) + 1260) 150 13 dL_office_147 lkv_L_62 (tr0 hT) rfl (c_X11_addStudent_ok hT hI1.1 hI1.2.1 (by constructor <;> omega) ⟨by omega, by omega⟩ (by omega) (n := k) hI1.2.2.1.2.1) (by first | decide | omega) rfl rfl (Nat.le_of_ble_eq_true rfl) rfl (by omega) (by omega) (fun h α ν X hT hP147 => ?_)
                obtain ⟨⟨f0, f40⟩, hI⟩ := OFI_S hI1 (by omega) rfl ⟨by omega, by omega⟩ hP147
                have e0 := f0.trans e0
                have e40 := f40.trans e40
                rw [← f0, ← f40]
                refine ev_ild4 152 dL_office_150 rfl ?_
                refine tj_icmp_ne 159 155 dL_office_152 (by decide) rfl (by first | exact TR.rng hT _ _ _ | exact R31_of _ | exact bi_R _ | assumption | (constructor <;> omega)) (by first | exact TR.rng hT _ _ _ | exact R31_of _ | exact bi_R _ | assumption | (constructor <;> omega)) (fun c152 => ?_) (fun c152 => ?_)
                · exact False.elim (by omega)
                · skip
                  refine tj_iconst 156 dL_office_155 rfl ?_
                  refine ev_goto 160 dL_office_156 (by decide) ?_
                  refine ev_ist3 161 dL_office_160 rfl (by decide) rfl ?_
                  refine tj_inc4 164 dL_office_161 rfl (by decide) rfl ?_
                  refine ev_goto 108 dL_office_164 (by decide) ?_
                  exact ev_mono (by omega) (by omega) (ih108 (k + 1) _ _ _ _ _ _ (by omega) hT (by first | omega | assumption | omega) (by first | omega | assumption | omega) (by first | omega | assumption | omega) (by first | omega | assumption | omega) (by first | rfl | omega | (omega)))
        exact ev_mono (by omega) (by omega) (lp108 _ (0) _ _ _ _ _ _ (Nat.lt_succ_self _) hT (by first | omega | assumption | omega) (by first | omega | assumption | omega) (by first | omega | assumption | omega) (by first | omega | assumption | omega) (by first | rfl | omega | (omega)))
      · skip
        refine ev_ald2 20 dL_office_19 rfl ?_
        refine ev_getfieldN 23 14 5 fln_L_40 (tr40 hT) rfl dL_office_20 rfl ?_
        refine ev_ild4 25 dL_office_23 rfl ?_
        refine tj_iconst 26 dL_office_25 rfl ?_
        refine ev_ald1 27 dL_office_26 rfl ?_
        refine tj_iconst 28 dL_office_27 rfl ?_
        refine ly_cell (0) 31 hl dL_office_28 lks_L_44 (by omega) (by omega) rfl (by first | decide | omega) (Nat.le_of_ble_eq_true rfl) (fun x28 => ?_)
        refine tj_iconst 32 dL_office_31 rfl ?_
        refine ev_ild4 34 dL_office_32 rfl ?_
        refine tj_imul 35 dL_office_34 rfl ?_
        refine ev_ishr 36 dL_office_35 rfl ?_
        refine tj_bipush 38 dL_office_36 (by decide) rfl ?_
        refine ly_low (6) 41 dL_office_38 lks_L_50 (by omega) (by omega) (by omega) rfl (by first | decide | omega) (Nat.le_of_ble_eq_true rfl) (fun r38 hr38 => ?_)
        refine tj_iadd 42 dL_office_41 rfl ?_
        refine tv_iast 43 hT (tv46 hT) (fun _ => rfl) (c) (by omega) (by omega) (by omega) (by first | exact TR.rng hT _ _ _ | exact R31_of _ | exact bi_R _ | assumption | (constructor <;> omega)) dL_office_42 rfl (fun h hT => ?_)
        obtain ⟨X1, hX1⟩ : ∃ Z, Z = xs X 46 0 c (1 + (r38 : Int)) := ⟨_, rfl⟩
        rw [← hX1] at hT
        have hI1 : OFI c 0 0 ν X1 := by rw [hX1]; exact OFI_xs hI (by decide) (by omega) (by omega) (by omega)
        have v46 : X1 46 0 c = 1 + (r38 : Int) := by rw [hX1, xs_all, if_pos ⟨rfl, rfl, rfl⟩]
        refine ev_ald2 44 dL_office_43 rfl ?_
        refine ev_getfieldN 47 14 6 fln_L_53 (tr40 hT) rfl dL_office_44 rfl ?_
        refine ev_ild4 49 dL_office_47 rfl ?_
        refine tj_iconst 50 dL_office_49 rfl ?_
        refine ev_ald1 51 dL_office_50 rfl ?_
        refine tj_iconst 52 dL_office_51 rfl ?_
        refine ly_cell (1) 55 hl dL_office_52 lks_L_44 (by omega) (by omega) rfl (by first | decide | omega) (Nat.le_of_ble_eq_true rfl) (fun x52 => ?_)
        refine tj_iconst 56 dL_office_55 rfl ?_
        refine ev_ild4 58 dL_office_56 rfl ?_
        refine tj_imul 59 dL_office_58 rfl ?_
        refine ev_ishr 60 dL_office_59 rfl ?_
        refine tj_iconst 61 dL_office_60 rfl ?_
        refine ly_low (3) 64 dL_office_61 lks_L_50 (by omega) (by omega) (by omega) rfl (by first | decide | omega) (Nat.le_of_ble_eq_true rfl) (fun r61 hr61 => ?_)
        refine tj_iadd 65 dL_office_64 rfl ?_
        refine tv_iast 66 hT (tv47 hT) (fun _ => rfl) (c) (by omega) (by omega) (by omega) (by first | exact TR.rng hT _ _ _ | exact R31_of _ | exact bi_R _ | assumption | (constructor <;> omega)) dL_office_65 rfl (fun h hT => ?_)
        obtain ⟨X2, hX2⟩ : ∃ Z, Z = xs X1 47 0 c (1 + (r61 : Int)) := ⟨_, rfl⟩
        rw [← hX2] at hT
        have hI2 : OFI c 0 0 ν X2 := by rw [hX2]; exact OFI_xs hI1 (by decide) (by omega) (by omega) (by omega)
        have v47 : X2 47 0 c = 1 + (r61 : Int) := by rw [hX2, xs_all, if_pos ⟨rfl, rfl, rfl⟩]
        have v46 : X2 46 0 c = 1 + (r38 : Int) := by rw [hX2, xs_nk (by decide)]; exact v46
        have c1 := hI2.2.2.1.1
        refine ev_ild3 67 dL_office_66 rfl ?_
        refine tj_if_eq 97 70 dL_office_67 (by decide) rfl (by first | exact TR.rng hT _ _ _ | exact R31_of _ | exact bi_R _ | assumption | (constructor <;> omega)) (fun c67 => ?_) (fun c67 => ?_)
        · exact False.elim (by omega)
        · skip
          refine ev_ald0 71 dL_office_70 rfl ?_
          refine ev_ald2 72 dL_office_71 rfl ?_
          refine ev_getfieldN 75 14 5 fln_L_40 (tr40 hT) rfl dL_office_72 rfl ?_
          refine ev_ild4 77 dL_office_75 rfl ?_
          refine tv_iald 78 (tr46 hT) (c) (by omega) (by omega) (by omega) dL_office_77 rfl ?_
          refine ev_ald2 79 dL_office_78 rfl ?_
          refine ev_getfieldN 82 14 6 fln_L_53 (tr40 hT) rfl dL_office_79 rfl ?_
          refine ev_ild4 84 dL_office_82 rfl ?_
          refine tv_iald 85 (tr47 hT) (c) (by omega) (by omega) (by omega) dL_office_84 rfl ?_
          refine tl_V (4 * (5 - (c + 1)) + 164) (113 * (5 - (c + 1)) + 2695) 88 13 dL_office_85 lkv_L_56 (tr0 hT) rfl (c_X11_addCourse_ok hT hI2.1 hI2.2.1 (by constructor <;> omega) (by constructor <;> omega) ⟨by omega, by omega⟩ ⟨by omega, by omega⟩ (by omega) (n := c) hI2.2.2.1.1) (by first | decide | omega) rfl rfl (Nat.le_of_ble_eq_true rfl) rfl (by omega) (by omega) (fun h α ν X hT hP85 => ?_)
          obtain ⟨⟨f0, f40⟩, hI⟩ := OFI_C hI2 (by omega) rfl rfl ⟨by omega, by omega⟩ ⟨by omega, by omega⟩ hP85
          have e0 := f0.trans e0
          have e40 := f40.trans e40
          rw [← f0, ← f40]
          refine ev_ild4 90 dL_office_88 rfl ?_
          refine tj_icmp_ne 97 93 dL_office_90 (by decide) rfl (by first | exact TR.rng hT _ _ _ | exact R31_of _ | exact bi_R _ | assumption | (constructor <;> omega)) (by first | exact TR.rng hT _ _ _ | exact R31_of _ | exact bi_R _ | assumption | (constructor <;> omega)) (fun c90 => ?_) (fun c90 => ?_)
          · exact False.elim (by omega)
          · skip
            refine tj_iconst 94 dL_office_93 rfl ?_
            refine ev_goto 98 dL_office_94 (by decide) ?_
            refine ev_ist3 99 dL_office_98 rfl (by decide) rfl ?_
            refine tj_inc4 102 dL_office_99 rfl (by decide) rfl ?_
            refine ev_goto 13 dL_office_102 (by decide) ?_
            exact ev_mono (by omega) (by omega) (ih13 (c + 1) _ _ _ _ _ _ (by omega) hT (by first | omega | assumption | omega) (by first | omega | assumption | omega) (by first | omega | assumption | omega) (by first | omega | assumption | omega) (by first | rfl | omega | (omega)))
  exact ev_mono (by omega) (by omega) (lp13 _ (0) _ _ _ _ _ _ (Nat.lt_succ_self _) hT (by first | omega | assumption | omega) (by first | omega | assumption | omega) (by first | omega | assumption | omega) (by first | omega | assumption | omega) (by first | rfl | omega | (omega)))
/-- what the office gives back -/
def OQ (g : Gt) (q0 : Nat) : RT → AH → Prop := fun r h' => ∃ α ν X, r = .inl (some (.ref (α 40 0))) ∧ α 0 0 = q0 ∧ TR g α ν X h' ∧ INV 0 ν X
theorem ofi_0 : OFI 0 0 0 nu0 X0 := ⟨wx_0, nv_0, ⟨rfl, rfl, rfl⟩, ⟨fun s c => x0_n (by omega), fun c _ => x0_n (by omega), fun s c hs _ => absurd hs (by show ¬ ((s : Int) < 0); omega), x0_n (by omega), fun c hc => if_pos (Or.inr (Or.inr ⟨rfl, hc⟩)), fun j => x0_n (by omega)⟩, fun c hc => absurd hc (Nat.not_lt_zero _), fun c hc => absurd hc (Nat.not_lt_zero _), fun c hc => absurd hc (Nat.not_lt_zero _), fun c hc => absurd hc (Nat.not_lt_zero _)⟩
set_option maxRecDepth 100000 in
set_option maxHeartbeats 4000000 in
theorem c_L_office {g : Gt} {h0 h : AH} {q0 : Nat} {A r : Nat → Nat} {Zp : List (Nat × AC)} (hl : (gX g).2.1 ≤ 260) (F1 : FR g h0 h Zp) (hz : ∀ (q1 : Nat) (B : Nat → Nat), Zp ++ ((q1, .inr (14, [.ref (B 1), .ref (B 2), .ref (B 3), .ref (B 4), .ref (B 5), .ref (B 6), .ref (B 7), .ref (B 8), .ref (B 9)])) :: [(B 1, zi 12), (B 2, zi 12), (B 3, zi 12), (B 4, zi 12), (B 5, fi 5 (-1)), (B 6, zi 5), (B 7, zi 5), (B 8, zi 20), (B 9, zi 5)]) = Z0 g A r B q0 q1) : Ct g M_L_office 100 [.ref q0, .ref (gX g).1] h 194 3357 (OQ g q0) := by
  refine ct_of_ev rfl rfl (ls := [some (.ref q0), some (.ref (gX g).1), none, none, none, none]) rfl (Nat.le_of_ble_eq_true rfl) ?_
  refine ev_mono (mc := 9 + 184 + 1) (ms := 88 + 3260 + 9) (by omega) (by omega) ?_
  refine ev_newk 3 14 nw_L_37 rfl dL_office_0 rfl (fun q1 hq1 hb1 => ?_)
  refine ev_dup 4 dL_office_3 rfl rfl ?_
  refine kv_initN (d1 := 5) (st := [.ref q1]) 7 lkn_L_39 ⟨im_X12_init, rfl, rfl⟩ (k_X12_init (hup_eq _ _ _) hb1) (by decide) rfl rfl (Nat.le_of_ble_eq_true rfl) dL_office_4 rfl (fun h2 hP => ?_)
  obtain ⟨b1, b2, b3, b4, b5, b6, b7, b8, b9, K2⟩ := hP
  have F2 := FR.of_KN hq1 K2
  refine ev_ast2 8 dL_office_7 rfl (by decide) rfl ?_
  have F := F1.app F2
  have e := hz q1 (fun n => ([0, b1, b2, b3, b4, b5, b6, b7, b8, b9] : List Nat).getD n 0)
  have F3 : FR g h0 h2 (Z0 g A r (fun n => ([0, b1, b2, b3, b4, b5, b6, b7, b8, b9] : List Nat).getD n 0) q0 q1) := by rw [← e]; exact F
  have hT := tr_first F3
  exact L_office8 (Q := OQ g q0) hl hT ofi_0 rfl rfl (fun α' ν' X' h' a0 hT' hI' => ⟨α', ν', X', rfl, a0, hT', OFI_INV hI'⟩)
