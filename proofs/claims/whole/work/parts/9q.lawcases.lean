/-! EACH CASE OF THE LAW -/
set_option maxRecDepth 100000 in
set_option maxHeartbeats 4000000 in
theorem sg_addCourse {g : Gt} {α : AL} {ν : Nat → Nat → Bool} {X : XM} {h : AH} {k : Int} {i mc ms : Nat} {Q : RT → AH → Prop} (hl : (gX g).2.1 ≤ 2048) (hi : i + 3 < (gX g).2.1) (hT : TR g α ν X h) (hI : INV k ν X) (hk : k ≤ 512) (kk : ∀ α' ν' X' h', FIX α α' → TR g α' ν' X' h' → INV (k + 1) ν' X' → Ev g M_L_law 2048 3533 (lsL g α (i : Int)) [] h' mc ms Q) : Ev g M_L_law 2048 272 (lsL g α (i : Int)) [] h (28 + mc) (287 + ms) Q := by
  obtain ⟨p1, r1, e1⟩ := scr_J ((gX g).2.2 (i + 1))
  obtain ⟨p2, r2, e2⟩ := scr_J ((gX g).2.2 (i + 2))
  obtain ⟨p3, r3, e3⟩ := scr_J ((gX g).2.2 (i + 3))
  obtain ⟨r, mc1, ms1, P, hr, hm1, hm2, hw, hp⟩ := pr_addCourse hT hI r1 r2
  have hr31 : R31 r := ⟨by omega, by omega⟩
  refine ev_mono (mc := mc1 + mc) (ms := ms1 + ms) (by omega) (by omega) ?_
  refine ev_ald1 273 dL_law_272 rfl ?_
  refine ev_ald0 274 dL_law_273 rfl ?_
  refine ev_ild5 276 dL_law_274 rfl ?_
  refine tj_iconst 277 dL_law_276 rfl ?_
  refine tj_iadd 278 dL_law_277 rfl ?_
  refine lq_scr (i + 1) 279 (by omega) (by omega) hl e1 dL_law_278 rfl ?_
  refine ev_ald0 280 dL_law_279 rfl ?_
  refine ev_ild5 282 dL_law_280 rfl ?_
  refine tj_iconst 283 dL_law_282 rfl ?_
  refine tj_iadd 284 dL_law_283 rfl ?_
  refine lq_scr (i + 2) 285 (by omega) (by omega) hl e2 dL_law_284 rfl ?_
  refine ev_ald3 286 dL_law_285 rfl ?_
  refine lh_S (As := [.ref (α 0 0), .int (J p1), .int (J p2), .ref (α 90 0)]) 289 dL_law_286 lh_182 hw (by decide) rfl rfl (Nat.le_of_ble_eq_true rfl) rfl (fun h α' ν' X1 hT hP => ?_)
  obtain ⟨hf, z2, dm, hz2, htz, hdm, hm⟩ := hp _ _ _ _ hT hP
  rw [hf.2.1] at hm
  have hb := tr40 hT
  rw [hf.2.1] at hb
  refine ev_ist6 291 dL_law_289 rfl (by decide) rfl ?_
  refine ev_ald2 292 dL_law_291 rfl ?_
  refine ev_ald0 293 dL_law_292 rfl ?_
  refine ev_ild5 295 dL_law_293 rfl ?_
  refine tj_iconst 296 dL_law_295 rfl ?_
  refine tj_iadd 297 dL_law_296 rfl ?_
  refine lq_scr (i + 1) 298 (by omega) (by omega) hl e1 dL_law_297 rfl ?_
  refine ev_ald0 299 dL_law_298 rfl ?_
  refine ev_ild5 301 dL_law_299 rfl ?_
  refine tj_iconst 302 dL_law_301 rfl ?_
  refine tj_iadd 303 dL_law_302 rfl ?_
  refine lq_scr (i + 2) 304 (by omega) (by omega) hl e2 dL_law_303 rfl ?_
  refine tm_V2 307 14 dL_law_304 lkv_L_187 hb rfl rfl (by omega) (Nat.le_of_ble_eq_true rfl) hm (fun h X2 hT hq => ?_)
  obtain ⟨q1, q2, hI2⟩ := hq
  have hb := tr40 hT
  have hth := c_X12_thrown hT
  rw [hf.2.1] at hb
  rw [hf.2.1, q1] at hth
  refine ev_ist7 309 dL_law_307 rfl (by decide) rfl ?_
  refine ev_ald2 310 dL_law_309 rfl ?_
  refine tc_V0 313 14 dL_law_310 lkv_L_188 hb rfl rfl (by decide) (Nat.le_of_ble_eq_true rfl) hth ?_
  refine ev_ild6 315 dL_law_313 rfl ?_
  refine tj_icmp_eq 320 318 dL_law_315 (by decide) rfl hr31 hr31 (fun _ => ?_) (fun c => absurd rfl c)
  refine ev_ild6 322 dL_law_320 rfl ?_
  refine tj_if_ne 337 325 dL_law_322 (by decide) rfl hr31 (fun c0 => ?_) (fun c0 => ?_)
  · skip
    refine ev_goto 3533 dL_law_337 (by decide) ?_
    exact ev_locals lsL_le (kk _ _ _ _ hf hT hI2)
  · skip
    refine ev_ald3 326 dL_law_325 rfl ?_
    refine tj_iconst 327 dL_law_326 rfl ?_
    refine lq_lald 328 hT hf.2.2.1 rfl (q2 c0) dL_law_327 rfl ?_
    refine ev_ild7 330 dL_law_328 rfl ?_
    refine ev_i2l 331 dL_law_330 rfl ?_
    rw [J_i2l _ hz2]
    refine ev_lcmp 332 dL_law_331 rfl ?_
    rw [lcmp_self]
    refine tj_if_eq 337 335 dL_law_332 (by decide) rfl R31_0 (fun _ => ?_) (fun c => absurd rfl c)
    refine ev_goto 3533 dL_law_337 (by decide) ?_
    exact ev_locals lsL_le (kk _ _ _ _ hf hT hI2)
set_option maxRecDepth 100000 in
set_option maxHeartbeats 4000000 in
theorem sg_addStudent {g : Gt} {α : AL} {ν : Nat → Nat → Bool} {X : XM} {h : AH} {k : Int} {i mc ms : Nat} {Q : RT → AH → Prop} (hl : (gX g).2.1 ≤ 2048) (hi : i + 3 < (gX g).2.1) (hT : TR g α ν X h) (hI : INV k ν X) (hk : k ≤ 512) (kk : ∀ α' ν' X' h', FIX α α' → TR g α' ν' X' h' → INV (k + 1) ν' X' → Ev g M_L_law 2048 3533 (lsL g α (i : Int)) [] h' mc ms Q) : Ev g M_L_law 2048 340 (lsL g α (i : Int)) [] h (28 + mc) (287 + ms) Q := by
  obtain ⟨p1, r1, e1⟩ := scr_J ((gX g).2.2 (i + 1))
  obtain ⟨p2, r2, e2⟩ := scr_J ((gX g).2.2 (i + 2))
  obtain ⟨p3, r3, e3⟩ := scr_J ((gX g).2.2 (i + 3))
  obtain ⟨r, mc1, ms1, P, hr, hm1, hm2, hw, hp⟩ := pr_addStudent hT hI r1
  have hr31 : R31 r := ⟨by omega, by omega⟩
  refine ev_mono (mc := mc1 + mc) (ms := ms1 + ms) (by omega) (by omega) ?_
  refine ev_ald1 341 dL_law_340 rfl ?_
  refine ev_ald0 342 dL_law_341 rfl ?_
  refine ev_ild5 344 dL_law_342 rfl ?_
  refine tj_iconst 345 dL_law_344 rfl ?_
  refine tj_iadd 346 dL_law_345 rfl ?_
  refine lq_scr (i + 1) 347 (by omega) (by omega) hl e1 dL_law_346 rfl ?_
  refine ev_ald3 348 dL_law_347 rfl ?_
  refine lh_S (As := [.ref (α 0 0), .int (J p1), .ref (α 90 0)]) 351 dL_law_348 lh_191 hw (by decide) rfl rfl (Nat.le_of_ble_eq_true rfl) rfl (fun h α' ν' X1 hT hP => ?_)
  obtain ⟨hf, z2, dm, hz2, htz, hdm, hm⟩ := hp _ _ _ _ hT hP
  rw [hf.2.1] at hm
  have hb := tr40 hT
  rw [hf.2.1] at hb
  refine ev_ist6 353 dL_law_351 rfl (by decide) rfl ?_
  refine ev_ald2 354 dL_law_353 rfl ?_
  refine ev_ald0 355 dL_law_354 rfl ?_
  refine ev_ild5 357 dL_law_355 rfl ?_
  refine tj_iconst 358 dL_law_357 rfl ?_
  refine tj_iadd 359 dL_law_358 rfl ?_
  refine lq_scr (i + 1) 360 (by omega) (by omega) hl e1 dL_law_359 rfl ?_
  refine tm_V1 363 14 dL_law_360 lkv_L_194 hb rfl rfl (by omega) (Nat.le_of_ble_eq_true rfl) hm (fun h X2 hT hq => ?_)
  obtain ⟨q1, q2, hI2⟩ := hq
  have hb := tr40 hT
  have hth := c_X12_thrown hT
  rw [hf.2.1] at hb
  rw [hf.2.1, q1] at hth
  refine ev_ist7 365 dL_law_363 rfl (by decide) rfl ?_
  refine ev_ald2 366 dL_law_365 rfl ?_
  refine tc_V0 369 14 dL_law_366 lkv_L_188 hb rfl rfl (by decide) (Nat.le_of_ble_eq_true rfl) hth ?_
  refine ev_ild6 371 dL_law_369 rfl ?_
  refine tj_icmp_eq 376 374 dL_law_371 (by decide) rfl hr31 hr31 (fun _ => ?_) (fun c => absurd rfl c)
  refine ev_ild6 378 dL_law_376 rfl ?_
  refine tj_if_ne 393 381 dL_law_378 (by decide) rfl hr31 (fun c0 => ?_) (fun c0 => ?_)
  · skip
    refine ev_goto 3533 dL_law_393 (by decide) ?_
    exact ev_locals lsL_le (kk _ _ _ _ hf hT hI2)
  · skip
    refine ev_ald3 382 dL_law_381 rfl ?_
    refine tj_iconst 383 dL_law_382 rfl ?_
    refine lq_lald 384 hT hf.2.2.1 rfl (q2 c0) dL_law_383 rfl ?_
    refine ev_ild7 386 dL_law_384 rfl ?_
    refine ev_i2l 387 dL_law_386 rfl ?_
    rw [J_i2l _ hz2]
    refine ev_lcmp 388 dL_law_387 rfl ?_
    rw [lcmp_self]
    refine tj_if_eq 393 391 dL_law_388 (by decide) rfl R31_0 (fun _ => ?_) (fun c => absurd rfl c)
    refine ev_goto 3533 dL_law_393 (by decide) ?_
    exact ev_locals lsL_le (kk _ _ _ _ hf hT hI2)
set_option maxRecDepth 100000 in
set_option maxHeartbeats 4000000 in
theorem sg_changeMajor {g : Gt} {α : AL} {ν : Nat → Nat → Bool} {X : XM} {h : AH} {k : Int} {i mc ms : Nat} {Q : RT → AH → Prop} (hl : (gX g).2.1 ≤ 2048) (hi : i + 3 < (gX g).2.1) (hT : TR g α ν X h) (hI : INV k ν X) (hk : k ≤ 512) (kk : ∀ α' ν' X' h', FIX α α' → TR g α' ν' X' h' → INV (k + 1) ν' X' → Ev g M_L_law 2048 3533 (lsL g α (i : Int)) [] h' mc ms Q) : Ev g M_L_law 2048 396 (lsL g α (i : Int)) [] h (28 + mc) (287 + ms) Q := by
  obtain ⟨p1, r1, e1⟩ := scr_J ((gX g).2.2 (i + 1))
  obtain ⟨p2, r2, e2⟩ := scr_J ((gX g).2.2 (i + 2))
  obtain ⟨p3, r3, e3⟩ := scr_J ((gX g).2.2 (i + 3))
  obtain ⟨r, mc1, ms1, P, hr, hm1, hm2, hw, hp⟩ := pr_changeMajor hT hI r1 r2
  have hr31 : R31 r := ⟨by omega, by omega⟩
  refine ev_mono (mc := mc1 + mc) (ms := ms1 + ms) (by omega) (by omega) ?_
  refine ev_ald1 397 dL_law_396 rfl ?_
  refine ev_ald0 398 dL_law_397 rfl ?_
  refine ev_ild5 400 dL_law_398 rfl ?_
  refine tj_iconst 401 dL_law_400 rfl ?_
  refine tj_iadd 402 dL_law_401 rfl ?_
  refine lq_scr (i + 1) 403 (by omega) (by omega) hl e1 dL_law_402 rfl ?_
  refine ev_ald0 404 dL_law_403 rfl ?_
  refine ev_ild5 406 dL_law_404 rfl ?_
  refine tj_iconst 407 dL_law_406 rfl ?_
  refine tj_iadd 408 dL_law_407 rfl ?_
  refine lq_scr (i + 2) 409 (by omega) (by omega) hl e2 dL_law_408 rfl ?_
  refine ev_ald3 410 dL_law_409 rfl ?_
  refine lh_S (As := [.ref (α 0 0), .int (J p1), .int (J p2), .ref (α 90 0)]) 413 dL_law_410 lh_195 hw (by decide) rfl rfl (Nat.le_of_ble_eq_true rfl) rfl (fun h α' ν' X1 hT hP => ?_)
  obtain ⟨hf, z2, dm, hz2, htz, hdm, hm⟩ := hp _ _ _ _ hT hP
  rw [hf.2.1] at hm
  have hb := tr40 hT
  rw [hf.2.1] at hb
  refine ev_ist6 415 dL_law_413 rfl (by decide) rfl ?_
  refine ev_ald2 416 dL_law_415 rfl ?_
  refine ev_ald0 417 dL_law_416 rfl ?_
  refine ev_ild5 419 dL_law_417 rfl ?_
  refine tj_iconst 420 dL_law_419 rfl ?_
  refine tj_iadd 421 dL_law_420 rfl ?_
  refine lq_scr (i + 1) 422 (by omega) (by omega) hl e1 dL_law_421 rfl ?_
  refine ev_ald0 423 dL_law_422 rfl ?_
  refine ev_ild5 425 dL_law_423 rfl ?_
  refine tj_iconst 426 dL_law_425 rfl ?_
  refine tj_iadd 427 dL_law_426 rfl ?_
  refine lq_scr (i + 2) 428 (by omega) (by omega) hl e2 dL_law_427 rfl ?_
  refine tm_V2 431 14 dL_law_428 lkv_L_197 hb rfl rfl (by omega) (Nat.le_of_ble_eq_true rfl) hm (fun h X2 hT hq => ?_)
  obtain ⟨q1, q2, hI2⟩ := hq
  have hb := tr40 hT
  have hth := c_X12_thrown hT
  rw [hf.2.1] at hb
  rw [hf.2.1, q1] at hth
  refine ev_ist7 433 dL_law_431 rfl (by decide) rfl ?_
  refine ev_ald2 434 dL_law_433 rfl ?_
  refine tc_V0 437 14 dL_law_434 lkv_L_188 hb rfl rfl (by decide) (Nat.le_of_ble_eq_true rfl) hth ?_
  refine ev_ild6 439 dL_law_437 rfl ?_
  refine tj_icmp_eq 444 442 dL_law_439 (by decide) rfl hr31 hr31 (fun _ => ?_) (fun c => absurd rfl c)
  refine ev_ild6 446 dL_law_444 rfl ?_
  refine tj_if_ne 461 449 dL_law_446 (by decide) rfl hr31 (fun c0 => ?_) (fun c0 => ?_)
  · skip
    refine ev_goto 3533 dL_law_461 (by decide) ?_
    exact ev_locals lsL_le (kk _ _ _ _ hf hT hI2)
  · skip
    refine ev_ald3 450 dL_law_449 rfl ?_
    refine tj_iconst 451 dL_law_450 rfl ?_
    refine lq_lald 452 hT hf.2.2.1 rfl (q2 c0) dL_law_451 rfl ?_
    refine ev_ild7 454 dL_law_452 rfl ?_
    refine ev_i2l 455 dL_law_454 rfl ?_
    rw [J_i2l _ hz2]
    refine ev_lcmp 456 dL_law_455 rfl ?_
    rw [lcmp_self]
    refine tj_if_eq 461 459 dL_law_456 (by decide) rfl R31_0 (fun _ => ?_) (fun c => absurd rfl c)
    refine ev_goto 3533 dL_law_461 (by decide) ?_
    exact ev_locals lsL_le (kk _ _ _ _ hf hT hI2)
set_option maxRecDepth 100000 in
set_option maxHeartbeats 4000000 in
theorem sg_majorOf {g : Gt} {α : AL} {ν : Nat → Nat → Bool} {X : XM} {h : AH} {k : Int} {i mc ms : Nat} {Q : RT → AH → Prop} (hl : (gX g).2.1 ≤ 2048) (hi : i + 3 < (gX g).2.1) (hT : TR g α ν X h) (hI : INV k ν X) (hk : k ≤ 512) (kk : ∀ α' ν' X' h', FIX α α' → TR g α' ν' X' h' → INV (k + 1) ν' X' → Ev g M_L_law 2048 3533 (lsL g α (i : Int)) [] h' mc ms Q) : Ev g M_L_law 2048 464 (lsL g α (i : Int)) [] h (28 + mc) (287 + ms) Q := by
  obtain ⟨p1, r1, e1⟩ := scr_J ((gX g).2.2 (i + 1))
  obtain ⟨p2, r2, e2⟩ := scr_J ((gX g).2.2 (i + 2))
  obtain ⟨p3, r3, e3⟩ := scr_J ((gX g).2.2 (i + 3))
  obtain ⟨r, mc1, ms1, P, hr, hm1, hm2, hw, hp⟩ := pr_majorOf hT hI r1
  have hr31 : R31 r := ⟨by omega, by omega⟩
  refine ev_mono (mc := mc1 + mc) (ms := ms1 + ms) (by omega) (by omega) ?_
  refine ev_ald1 465 dL_law_464 rfl ?_
  refine ev_ald0 466 dL_law_465 rfl ?_
  refine ev_ild5 468 dL_law_466 rfl ?_
  refine tj_iconst 469 dL_law_468 rfl ?_
  refine tj_iadd 470 dL_law_469 rfl ?_
  refine lq_scr (i + 1) 471 (by omega) (by omega) hl e1 dL_law_470 rfl ?_
  refine ev_ald3 472 dL_law_471 rfl ?_
  refine lh_S (As := [.ref (α 0 0), .int (J p1), .ref (α 90 0)]) 475 dL_law_472 lh_198 hw (by decide) rfl rfl (Nat.le_of_ble_eq_true rfl) rfl (fun h α' ν' X1 hT hP => ?_)
  obtain ⟨hf, z2, dm, hz2, htz, hdm, hm⟩ := hp _ _ _ _ hT hP
  rw [hf.2.1] at hm
  have hb := tr40 hT
  rw [hf.2.1] at hb
  refine ev_ist6 477 dL_law_475 rfl (by decide) rfl ?_
  refine ev_ald2 478 dL_law_477 rfl ?_
  refine ev_ald0 479 dL_law_478 rfl ?_
  refine ev_ild5 481 dL_law_479 rfl ?_
  refine tj_iconst 482 dL_law_481 rfl ?_
  refine tj_iadd 483 dL_law_482 rfl ?_
  refine lq_scr (i + 1) 484 (by omega) (by omega) hl e1 dL_law_483 rfl ?_
  refine tm_V1 487 14 dL_law_484 lkv_L_200 hb rfl rfl (by omega) (Nat.le_of_ble_eq_true rfl) hm (fun h X2 hT hq => ?_)
  obtain ⟨q1, q2, hI2⟩ := hq
  have hb := tr40 hT
  have hth := c_X12_thrown hT
  rw [hf.2.1] at hb
  rw [hf.2.1, q1] at hth
  refine ev_ist7 489 dL_law_487 rfl (by decide) rfl ?_
  refine ev_ald2 490 dL_law_489 rfl ?_
  refine tc_V0 493 14 dL_law_490 lkv_L_188 hb rfl rfl (by decide) (Nat.le_of_ble_eq_true rfl) hth ?_
  refine ev_ild6 495 dL_law_493 rfl ?_
  refine tj_icmp_eq 500 498 dL_law_495 (by decide) rfl hr31 hr31 (fun _ => ?_) (fun c => absurd rfl c)
  refine ev_ild6 502 dL_law_500 rfl ?_
  refine tj_if_ne 517 505 dL_law_502 (by decide) rfl hr31 (fun c0 => ?_) (fun c0 => ?_)
  · skip
    refine ev_goto 3533 dL_law_517 (by decide) ?_
    exact ev_locals lsL_le (kk _ _ _ _ hf hT hI2)
  · skip
    refine ev_ald3 506 dL_law_505 rfl ?_
    refine tj_iconst 507 dL_law_506 rfl ?_
    refine lq_lald 508 hT hf.2.2.1 rfl (q2 c0) dL_law_507 rfl ?_
    refine ev_ild7 510 dL_law_508 rfl ?_
    refine ev_i2l 511 dL_law_510 rfl ?_
    rw [J_i2l _ hz2]
    refine ev_lcmp 512 dL_law_511 rfl ?_
    rw [lcmp_self]
    refine tj_if_eq 517 515 dL_law_512 (by decide) rfl R31_0 (fun _ => ?_) (fun c => absurd rfl c)
    refine ev_goto 3533 dL_law_517 (by decide) ?_
    exact ev_locals lsL_le (kk _ _ _ _ hf hT hI2)
set_option maxRecDepth 100000 in
set_option maxHeartbeats 4000000 in
theorem sg_reserve {g : Gt} {α : AL} {ν : Nat → Nat → Bool} {X : XM} {h : AH} {k : Int} {i mc ms : Nat} {Q : RT → AH → Prop} (hl : (gX g).2.1 ≤ 2048) (hi : i + 3 < (gX g).2.1) (hT : TR g α ν X h) (hI : INV k ν X) (hk : k ≤ 512) (kk : ∀ α' ν' X' h', FIX α α' → TR g α' ν' X' h' → INV (k + 1) ν' X' → Ev g M_L_law 2048 3533 (lsL g α (i : Int)) [] h' mc ms Q) : Ev g M_L_law 2048 520 (lsL g α (i : Int)) [] h (28 + mc) (287 + ms) Q := by
  obtain ⟨p1, r1, e1⟩ := scr_J ((gX g).2.2 (i + 1))
  obtain ⟨p2, r2, e2⟩ := scr_J ((gX g).2.2 (i + 2))
  obtain ⟨p3, r3, e3⟩ := scr_J ((gX g).2.2 (i + 3))
  obtain ⟨r, mc1, ms1, P, hr, hm1, hm2, hw, hp⟩ := pr_reserve hT hI r1 r2 r3
  have hr31 : R31 r := ⟨by omega, by omega⟩
  refine ev_mono (mc := mc1 + mc) (ms := ms1 + ms) (by omega) (by omega) ?_
  refine ev_ald1 521 dL_law_520 rfl ?_
  refine ev_ald0 522 dL_law_521 rfl ?_
  refine ev_ild5 524 dL_law_522 rfl ?_
  refine tj_iconst 525 dL_law_524 rfl ?_
  refine tj_iadd 526 dL_law_525 rfl ?_
  refine lq_scr (i + 1) 527 (by omega) (by omega) hl e1 dL_law_526 rfl ?_
  refine ev_ald0 528 dL_law_527 rfl ?_
  refine ev_ild5 530 dL_law_528 rfl ?_
  refine tj_iconst 531 dL_law_530 rfl ?_
  refine tj_iadd 532 dL_law_531 rfl ?_
  refine lq_scr (i + 2) 533 (by omega) (by omega) hl e2 dL_law_532 rfl ?_
  refine ev_ald0 534 dL_law_533 rfl ?_
  refine ev_ild5 536 dL_law_534 rfl ?_
  refine tj_iconst 537 dL_law_536 rfl ?_
  refine tj_iadd 538 dL_law_537 rfl ?_
  refine lq_scr (i + 3) 539 (by omega) (by omega) hl e3 dL_law_538 rfl ?_
  refine ev_ald3 540 dL_law_539 rfl ?_
  refine lh_S (As := [.ref (α 0 0), .int (J p1), .int (J p2), .int (J p3), .ref (α 90 0)]) 543 dL_law_540 lh_201 hw (by decide) rfl rfl (Nat.le_of_ble_eq_true rfl) rfl (fun h α' ν' X1 hT hP => ?_)
  obtain ⟨hf, z2, dm, hz2, htz, hdm, hm⟩ := hp _ _ _ _ hT hP
  rw [hf.2.1] at hm
  have hb := tr40 hT
  rw [hf.2.1] at hb
  refine ev_ist6 545 dL_law_543 rfl (by decide) rfl ?_
  refine ev_ald2 546 dL_law_545 rfl ?_
  refine ev_ald0 547 dL_law_546 rfl ?_
  refine ev_ild5 549 dL_law_547 rfl ?_
  refine tj_iconst 550 dL_law_549 rfl ?_
  refine tj_iadd 551 dL_law_550 rfl ?_
  refine lq_scr (i + 1) 552 (by omega) (by omega) hl e1 dL_law_551 rfl ?_
  refine ev_ald0 553 dL_law_552 rfl ?_
  refine ev_ild5 555 dL_law_553 rfl ?_
  refine tj_iconst 556 dL_law_555 rfl ?_
  refine tj_iadd 557 dL_law_556 rfl ?_
  refine lq_scr (i + 2) 558 (by omega) (by omega) hl e2 dL_law_557 rfl ?_
  refine ev_ald0 559 dL_law_558 rfl ?_
  refine ev_ild5 561 dL_law_559 rfl ?_
  refine tj_iconst 562 dL_law_561 rfl ?_
  refine tj_iadd 563 dL_law_562 rfl ?_
  refine lq_scr (i + 3) 564 (by omega) (by omega) hl e3 dL_law_563 rfl ?_
  refine tm_V3 567 14 dL_law_564 lkv_L_204 hb rfl rfl (by omega) (Nat.le_of_ble_eq_true rfl) hm (fun h X2 hT hq => ?_)
  obtain ⟨q1, q2, hI2⟩ := hq
  have hb := tr40 hT
  have hth := c_X12_thrown hT
  rw [hf.2.1] at hb
  rw [hf.2.1, q1] at hth
  refine ev_ist7 569 dL_law_567 rfl (by decide) rfl ?_
  refine ev_ald2 570 dL_law_569 rfl ?_
  refine tc_V0 573 14 dL_law_570 lkv_L_188 hb rfl rfl (by decide) (Nat.le_of_ble_eq_true rfl) hth ?_
  refine ev_ild6 575 dL_law_573 rfl ?_
  refine tj_icmp_eq 580 578 dL_law_575 (by decide) rfl hr31 hr31 (fun _ => ?_) (fun c => absurd rfl c)
  refine ev_ild6 582 dL_law_580 rfl ?_
  refine tj_if_ne 597 585 dL_law_582 (by decide) rfl hr31 (fun c0 => ?_) (fun c0 => ?_)
  · skip
    refine ev_goto 3533 dL_law_597 (by decide) ?_
    exact ev_locals lsL_le (kk _ _ _ _ hf hT hI2)
  · skip
    refine ev_ald3 586 dL_law_585 rfl ?_
    refine tj_iconst 587 dL_law_586 rfl ?_
    refine lq_lald 588 hT hf.2.2.1 rfl (q2 c0) dL_law_587 rfl ?_
    refine ev_ild7 590 dL_law_588 rfl ?_
    refine ev_i2l 591 dL_law_590 rfl ?_
    rw [J_i2l _ hz2]
    refine ev_lcmp 592 dL_law_591 rfl ?_
    rw [lcmp_self]
    refine tj_if_eq 597 595 dL_law_592 (by decide) rfl R31_0 (fun _ => ?_) (fun c => absurd rfl c)
    refine ev_goto 3533 dL_law_597 (by decide) ?_
    exact ev_locals lsL_le (kk _ _ _ _ hf hT hI2)
set_option maxRecDepth 100000 in
set_option maxHeartbeats 4000000 in
theorem sg_markFormula {g : Gt} {α : AL} {ν : Nat → Nat → Bool} {X : XM} {h : AH} {k : Int} {i mc ms : Nat} {Q : RT → AH → Prop} (hl : (gX g).2.1 ≤ 2048) (hi : i + 3 < (gX g).2.1) (hT : TR g α ν X h) (hI : INV k ν X) (hk : k ≤ 512) (kk : ∀ α' ν' X' h', FIX α α' → TR g α' ν' X' h' → INV (k + 1) ν' X' → Ev g M_L_law 2048 3533 (lsL g α (i : Int)) [] h' mc ms Q) : Ev g M_L_law 2048 600 (lsL g α (i : Int)) [] h (28 + mc) (287 + ms) Q := by
  obtain ⟨p1, r1, e1⟩ := scr_J ((gX g).2.2 (i + 1))
  obtain ⟨p2, r2, e2⟩ := scr_J ((gX g).2.2 (i + 2))
  obtain ⟨p3, r3, e3⟩ := scr_J ((gX g).2.2 (i + 3))
  obtain ⟨r, mc1, ms1, P, hr, hm1, hm2, hw, hp⟩ := pr_markFormula hT hI r1 r2
  have hr31 : R31 r := ⟨by omega, by omega⟩
  refine ev_mono (mc := mc1 + mc) (ms := ms1 + ms) (by omega) (by omega) ?_
  refine ev_ald1 601 dL_law_600 rfl ?_
  refine ev_ald0 602 dL_law_601 rfl ?_
  refine ev_ild5 604 dL_law_602 rfl ?_
  refine tj_iconst 605 dL_law_604 rfl ?_
  refine tj_iadd 606 dL_law_605 rfl ?_
  refine lq_scr (i + 1) 607 (by omega) (by omega) hl e1 dL_law_606 rfl ?_
  refine ev_ald0 608 dL_law_607 rfl ?_
  refine ev_ild5 610 dL_law_608 rfl ?_
  refine tj_iconst 611 dL_law_610 rfl ?_
  refine tj_iadd 612 dL_law_611 rfl ?_
  refine lq_scr (i + 2) 613 (by omega) (by omega) hl e2 dL_law_612 rfl ?_
  refine ev_ald3 614 dL_law_613 rfl ?_
  refine lh_S (As := [.ref (α 0 0), .int (J p1), .int (J p2), .ref (α 90 0)]) 617 dL_law_614 lh_205 hw (by decide) rfl rfl (Nat.le_of_ble_eq_true rfl) rfl (fun h α' ν' X1 hT hP => ?_)
  obtain ⟨hf, z2, dm, hz2, htz, hdm, hm⟩ := hp _ _ _ _ hT hP
  rw [hf.2.1] at hm
  have hb := tr40 hT
  rw [hf.2.1] at hb
  refine ev_ist6 619 dL_law_617 rfl (by decide) rfl ?_
  refine ev_ald2 620 dL_law_619 rfl ?_
  refine ev_ald0 621 dL_law_620 rfl ?_
  refine ev_ild5 623 dL_law_621 rfl ?_
  refine tj_iconst 624 dL_law_623 rfl ?_
  refine tj_iadd 625 dL_law_624 rfl ?_
  refine lq_scr (i + 1) 626 (by omega) (by omega) hl e1 dL_law_625 rfl ?_
  refine ev_ald0 627 dL_law_626 rfl ?_
  refine ev_ild5 629 dL_law_627 rfl ?_
  refine tj_iconst 630 dL_law_629 rfl ?_
  refine tj_iadd 631 dL_law_630 rfl ?_
  refine lq_scr (i + 2) 632 (by omega) (by omega) hl e2 dL_law_631 rfl ?_
  refine tm_V2 635 14 dL_law_632 lkv_L_207 hb rfl rfl (by omega) (Nat.le_of_ble_eq_true rfl) hm (fun h X2 hT hq => ?_)
  obtain ⟨q1, q2, hI2⟩ := hq
  have hb := tr40 hT
  have hth := c_X12_thrown hT
  rw [hf.2.1] at hb
  rw [hf.2.1, q1] at hth
  refine ev_ist7 637 dL_law_635 rfl (by decide) rfl ?_
  refine ev_ald2 638 dL_law_637 rfl ?_
  refine tc_V0 641 14 dL_law_638 lkv_L_188 hb rfl rfl (by decide) (Nat.le_of_ble_eq_true rfl) hth ?_
  refine ev_ild6 643 dL_law_641 rfl ?_
  refine tj_icmp_eq 648 646 dL_law_643 (by decide) rfl hr31 hr31 (fun _ => ?_) (fun c => absurd rfl c)
  refine ev_ild6 650 dL_law_648 rfl ?_
  refine tj_if_ne 665 653 dL_law_650 (by decide) rfl hr31 (fun c0 => ?_) (fun c0 => ?_)
  · skip
    refine ev_goto 3533 dL_law_665 (by decide) ?_
    exact ev_locals lsL_le (kk _ _ _ _ hf hT hI2)
  · skip
    refine ev_ald3 654 dL_law_653 rfl ?_
    refine tj_iconst 655 dL_law_654 rfl ?_
    refine lq_lald 656 hT hf.2.2.1 rfl (q2 c0) dL_law_655 rfl ?_
    refine ev_ild7 658 dL_law_656 rfl ?_
    refine ev_i2l 659 dL_law_658 rfl ?_
    rw [J_i2l _ hz2]
    refine ev_lcmp 660 dL_law_659 rfl ?_
    rw [lcmp_self]
    refine tj_if_eq 665 663 dL_law_660 (by decide) rfl R31_0 (fun _ => ?_) (fun c => absurd rfl c)
    refine ev_goto 3533 dL_law_665 (by decide) ?_
    exact ev_locals lsL_le (kk _ _ _ _ hf hT hI2)
set_option maxRecDepth 100000 in
set_option maxHeartbeats 4000000 in
theorem sg_togetherFormula {g : Gt} {α : AL} {ν : Nat → Nat → Bool} {X : XM} {h : AH} {k : Int} {i mc ms : Nat} {Q : RT → AH → Prop} (hl : (gX g).2.1 ≤ 2048) (hi : i + 3 < (gX g).2.1) (hT : TR g α ν X h) (hI : INV k ν X) (hk : k ≤ 512) (kk : ∀ α' ν' X' h', FIX α α' → TR g α' ν' X' h' → INV (k + 1) ν' X' → Ev g M_L_law 2048 3533 (lsL g α (i : Int)) [] h' mc ms Q) : Ev g M_L_law 2048 668 (lsL g α (i : Int)) [] h (28 + mc) (287 + ms) Q := by
  obtain ⟨p1, r1, e1⟩ := scr_J ((gX g).2.2 (i + 1))
  obtain ⟨p2, r2, e2⟩ := scr_J ((gX g).2.2 (i + 2))
  obtain ⟨p3, r3, e3⟩ := scr_J ((gX g).2.2 (i + 3))
  obtain ⟨r, mc1, ms1, P, hr, hm1, hm2, hw, hp⟩ := pr_togetherFormula hT hI r1
  have hr31 : R31 r := ⟨by omega, by omega⟩
  refine ev_mono (mc := mc1 + mc) (ms := ms1 + ms) (by omega) (by omega) ?_
  refine ev_ald1 669 dL_law_668 rfl ?_
  refine ev_ald0 670 dL_law_669 rfl ?_
  refine ev_ild5 672 dL_law_670 rfl ?_
  refine tj_iconst 673 dL_law_672 rfl ?_
  refine tj_iadd 674 dL_law_673 rfl ?_
  refine lq_scr (i + 1) 675 (by omega) (by omega) hl e1 dL_law_674 rfl ?_
  refine ev_ald3 676 dL_law_675 rfl ?_
  refine lh_S (As := [.ref (α 0 0), .int (J p1), .ref (α 90 0)]) 679 dL_law_676 lh_208 hw (by decide) rfl rfl (Nat.le_of_ble_eq_true rfl) rfl (fun h α' ν' X1 hT hP => ?_)
  obtain ⟨hf, z2, dm, hz2, htz, hdm, hm⟩ := hp _ _ _ _ hT hP
  rw [hf.2.1] at hm
  have hb := tr40 hT
  rw [hf.2.1] at hb
  refine ev_ist6 681 dL_law_679 rfl (by decide) rfl ?_
  refine ev_ald2 682 dL_law_681 rfl ?_
  refine ev_ald0 683 dL_law_682 rfl ?_
  refine ev_ild5 685 dL_law_683 rfl ?_
  refine tj_iconst 686 dL_law_685 rfl ?_
  refine tj_iadd 687 dL_law_686 rfl ?_
  refine lq_scr (i + 1) 688 (by omega) (by omega) hl e1 dL_law_687 rfl ?_
  refine tm_V1 691 14 dL_law_688 lkv_L_210 hb rfl rfl (by omega) (Nat.le_of_ble_eq_true rfl) hm (fun h X2 hT hq => ?_)
  obtain ⟨q1, q2, hI2⟩ := hq
  have hb := tr40 hT
  have hth := c_X12_thrown hT
  rw [hf.2.1] at hb
  rw [hf.2.1, q1] at hth
  refine ev_ist7 693 dL_law_691 rfl (by decide) rfl ?_
  refine ev_ald2 694 dL_law_693 rfl ?_
  refine tc_V0 697 14 dL_law_694 lkv_L_188 hb rfl rfl (by decide) (Nat.le_of_ble_eq_true rfl) hth ?_
  refine ev_ild6 699 dL_law_697 rfl ?_
  refine tj_icmp_eq 704 702 dL_law_699 (by decide) rfl hr31 hr31 (fun _ => ?_) (fun c => absurd rfl c)
  refine ev_ild6 706 dL_law_704 rfl ?_
  refine tj_if_ne 721 709 dL_law_706 (by decide) rfl hr31 (fun c0 => ?_) (fun c0 => ?_)
  · skip
    refine ev_goto 3533 dL_law_721 (by decide) ?_
    exact ev_locals lsL_le (kk _ _ _ _ hf hT hI2)
  · skip
    refine ev_ald3 710 dL_law_709 rfl ?_
    refine tj_iconst 711 dL_law_710 rfl ?_
    refine lq_lald 712 hT hf.2.2.1 rfl (q2 c0) dL_law_711 rfl ?_
    refine ev_ild7 714 dL_law_712 rfl ?_
    refine ev_i2l 715 dL_law_714 rfl ?_
    rw [J_i2l _ hz2]
    refine ev_lcmp 716 dL_law_715 rfl ?_
    rw [lcmp_self]
    refine tj_if_eq 721 719 dL_law_716 (by decide) rfl R31_0 (fun _ => ?_) (fun c => absurd rfl c)
    refine ev_goto 3533 dL_law_721 (by decide) ?_
    exact ev_locals lsL_le (kk _ _ _ _ hf hT hI2)
set_option maxRecDepth 100000 in
set_option maxHeartbeats 4000000 in
theorem sg_creditsFormula {g : Gt} {α : AL} {ν : Nat → Nat → Bool} {X : XM} {h : AH} {k : Int} {i mc ms : Nat} {Q : RT → AH → Prop} (hl : (gX g).2.1 ≤ 2048) (hi : i + 3 < (gX g).2.1) (hT : TR g α ν X h) (hI : INV k ν X) (hk : k ≤ 512) (kk : ∀ α' ν' X' h', FIX α α' → TR g α' ν' X' h' → INV (k + 1) ν' X' → Ev g M_L_law 2048 3533 (lsL g α (i : Int)) [] h' mc ms Q) : Ev g M_L_law 2048 724 (lsL g α (i : Int)) [] h (28 + mc) (287 + ms) Q := by
  obtain ⟨p1, r1, e1⟩ := scr_J ((gX g).2.2 (i + 1))
  obtain ⟨p2, r2, e2⟩ := scr_J ((gX g).2.2 (i + 2))
  obtain ⟨p3, r3, e3⟩ := scr_J ((gX g).2.2 (i + 3))
  obtain ⟨r, mc1, ms1, P, hr, hm1, hm2, hw, hp⟩ := pr_creditsFormula hT hI r1
  have hr31 : R31 r := ⟨by omega, by omega⟩
  refine ev_mono (mc := mc1 + mc) (ms := ms1 + ms) (by omega) (by omega) ?_
  refine ev_ald1 725 dL_law_724 rfl ?_
  refine ev_ald0 726 dL_law_725 rfl ?_
  refine ev_ild5 728 dL_law_726 rfl ?_
  refine tj_iconst 729 dL_law_728 rfl ?_
  refine tj_iadd 730 dL_law_729 rfl ?_
  refine lq_scr (i + 1) 731 (by omega) (by omega) hl e1 dL_law_730 rfl ?_
  refine ev_ald3 732 dL_law_731 rfl ?_
  refine lh_S (As := [.ref (α 0 0), .int (J p1), .ref (α 90 0)]) 735 dL_law_732 lh_211 hw (by decide) rfl rfl (Nat.le_of_ble_eq_true rfl) rfl (fun h α' ν' X1 hT hP => ?_)
  obtain ⟨hf, z2, dm, hz2, htz, hdm, hm⟩ := hp _ _ _ _ hT hP
  rw [hf.2.1] at hm
  have hb := tr40 hT
  rw [hf.2.1] at hb
  refine ev_ist6 737 dL_law_735 rfl (by decide) rfl ?_
  refine ev_ald2 738 dL_law_737 rfl ?_
  refine ev_ald0 739 dL_law_738 rfl ?_
  refine ev_ild5 741 dL_law_739 rfl ?_
  refine tj_iconst 742 dL_law_741 rfl ?_
  refine tj_iadd 743 dL_law_742 rfl ?_
  refine lq_scr (i + 1) 744 (by omega) (by omega) hl e1 dL_law_743 rfl ?_
  refine tm_V1 747 14 dL_law_744 lkv_L_213 hb rfl rfl (by omega) (Nat.le_of_ble_eq_true rfl) hm (fun h X2 hT hq => ?_)
  obtain ⟨q1, q2, hI2⟩ := hq
  have hb := tr40 hT
  have hth := c_X12_thrown hT
  rw [hf.2.1] at hb
  rw [hf.2.1, q1] at hth
  refine ev_ist7 749 dL_law_747 rfl (by decide) rfl ?_
  refine ev_ald2 750 dL_law_749 rfl ?_
  refine tc_V0 753 14 dL_law_750 lkv_L_188 hb rfl rfl (by decide) (Nat.le_of_ble_eq_true rfl) hth ?_
  refine ev_ild6 755 dL_law_753 rfl ?_
  refine tj_icmp_eq 760 758 dL_law_755 (by decide) rfl hr31 hr31 (fun _ => ?_) (fun c => absurd rfl c)
  refine ev_ild6 762 dL_law_760 rfl ?_
  refine tj_if_ne 777 765 dL_law_762 (by decide) rfl hr31 (fun c0 => ?_) (fun c0 => ?_)
  · skip
    refine ev_goto 3533 dL_law_777 (by decide) ?_
    exact ev_locals lsL_le (kk _ _ _ _ hf hT hI2)
  · skip
    refine ev_ald3 766 dL_law_765 rfl ?_
    refine tj_iconst 767 dL_law_766 rfl ?_
    refine lq_lald 768 hT hf.2.2.1 rfl (q2 c0) dL_law_767 rfl ?_
    refine ev_ild7 770 dL_law_768 rfl ?_
    refine ev_i2l 771 dL_law_770 rfl ?_
    rw [J_i2l _ hz2]
    refine ev_lcmp 772 dL_law_771 rfl ?_
    rw [lcmp_self]
    refine tj_if_eq 777 775 dL_law_772 (by decide) rfl R31_0 (fun _ => ?_) (fun c => absurd rfl c)
    refine ev_goto 3533 dL_law_777 (by decide) ?_
    exact ev_locals lsL_le (kk _ _ _ _ hf hT hI2)
set_option maxRecDepth 100000 in
set_option maxHeartbeats 4000000 in
theorem sg_allFormula {g : Gt} {α : AL} {ν : Nat → Nat → Bool} {X : XM} {h : AH} {k : Int} {i mc ms : Nat} {Q : RT → AH → Prop} (hl : (gX g).2.1 ≤ 2048) (hi : i + 3 < (gX g).2.1) (hT : TR g α ν X h) (hI : INV k ν X) (hk : k ≤ 512) (kk : ∀ α' ν' X' h', FIX α α' → TR g α' ν' X' h' → INV (k + 1) ν' X' → Ev g M_L_law 2048 3533 (lsL g α (i : Int)) [] h' mc ms Q) : Ev g M_L_law 2048 780 (lsL g α (i : Int)) [] h (28 + mc) (287 + ms) Q := by
  obtain ⟨p1, r1, e1⟩ := scr_J ((gX g).2.2 (i + 1))
  obtain ⟨p2, r2, e2⟩ := scr_J ((gX g).2.2 (i + 2))
  obtain ⟨p3, r3, e3⟩ := scr_J ((gX g).2.2 (i + 3))
  obtain ⟨r, mc1, ms1, P, hr, hm1, hm2, hw, hp⟩ := pr_allFormula hT hI r1 r2
  have hr31 : R31 r := ⟨by omega, by omega⟩
  refine ev_mono (mc := mc1 + mc) (ms := ms1 + ms) (by omega) (by omega) ?_
  refine ev_ald1 781 dL_law_780 rfl ?_
  refine ev_ald0 782 dL_law_781 rfl ?_
  refine ev_ild5 784 dL_law_782 rfl ?_
  refine tj_iconst 785 dL_law_784 rfl ?_
  refine tj_iadd 786 dL_law_785 rfl ?_
  refine lq_scr (i + 1) 787 (by omega) (by omega) hl e1 dL_law_786 rfl ?_
  refine ev_ald0 788 dL_law_787 rfl ?_
  refine ev_ild5 790 dL_law_788 rfl ?_
  refine tj_iconst 791 dL_law_790 rfl ?_
  refine tj_iadd 792 dL_law_791 rfl ?_
  refine lq_scr (i + 2) 793 (by omega) (by omega) hl e2 dL_law_792 rfl ?_
  refine ev_ald3 794 dL_law_793 rfl ?_
  refine lh_S (As := [.ref (α 0 0), .int (J p1), .int (J p2), .ref (α 90 0)]) 797 dL_law_794 lh_214 hw (by decide) rfl rfl (Nat.le_of_ble_eq_true rfl) rfl (fun h α' ν' X1 hT hP => ?_)
  obtain ⟨hf, z2, dm, hz2, htz, hdm, hm⟩ := hp _ _ _ _ hT hP
  rw [hf.2.1] at hm
  have hb := tr40 hT
  rw [hf.2.1] at hb
  refine ev_ist6 799 dL_law_797 rfl (by decide) rfl ?_
  refine ev_ald2 800 dL_law_799 rfl ?_
  refine ev_ald0 801 dL_law_800 rfl ?_
  refine ev_ild5 803 dL_law_801 rfl ?_
  refine tj_iconst 804 dL_law_803 rfl ?_
  refine tj_iadd 805 dL_law_804 rfl ?_
  refine lq_scr (i + 1) 806 (by omega) (by omega) hl e1 dL_law_805 rfl ?_
  refine ev_ald0 807 dL_law_806 rfl ?_
  refine ev_ild5 809 dL_law_807 rfl ?_
  refine tj_iconst 810 dL_law_809 rfl ?_
  refine tj_iadd 811 dL_law_810 rfl ?_
  refine lq_scr (i + 2) 812 (by omega) (by omega) hl e2 dL_law_811 rfl ?_
  refine tm_V2 815 14 dL_law_812 lkv_L_216 hb rfl rfl (by omega) (Nat.le_of_ble_eq_true rfl) hm (fun h X2 hT hq => ?_)
  obtain ⟨q1, q2, hI2⟩ := hq
  have hb := tr40 hT
  have hth := c_X12_thrown hT
  rw [hf.2.1] at hb
  rw [hf.2.1, q1] at hth
  refine ev_ist7 817 dL_law_815 rfl (by decide) rfl ?_
  refine ev_ald2 818 dL_law_817 rfl ?_
  refine tc_V0 821 14 dL_law_818 lkv_L_188 hb rfl rfl (by decide) (Nat.le_of_ble_eq_true rfl) hth ?_
  refine ev_ild6 823 dL_law_821 rfl ?_
  refine tj_icmp_eq 828 826 dL_law_823 (by decide) rfl hr31 hr31 (fun _ => ?_) (fun c => absurd rfl c)
  refine ev_ild6 830 dL_law_828 rfl ?_
  refine tj_if_ne 845 833 dL_law_830 (by decide) rfl hr31 (fun c0 => ?_) (fun c0 => ?_)
  · skip
    refine ev_goto 3533 dL_law_845 (by decide) ?_
    exact ev_locals lsL_le (kk _ _ _ _ hf hT hI2)
  · skip
    refine ev_ald3 834 dL_law_833 rfl ?_
    refine tj_iconst 835 dL_law_834 rfl ?_
    refine lq_lald 836 hT hf.2.2.1 rfl (q2 c0) dL_law_835 rfl ?_
    refine ev_ild7 838 dL_law_836 rfl ?_
    refine ev_i2l 839 dL_law_838 rfl ?_
    rw [J_i2l _ hz2]
    refine ev_lcmp 840 dL_law_839 rfl ?_
    rw [lcmp_self]
    refine tj_if_eq 845 843 dL_law_840 (by decide) rfl R31_0 (fun _ => ?_) (fun c => absurd rfl c)
    refine ev_goto 3533 dL_law_845 (by decide) ?_
    exact ev_locals lsL_le (kk _ _ _ _ hf hT hI2)
set_option maxRecDepth 100000 in
set_option maxHeartbeats 4000000 in
theorem sg_anyFormula {g : Gt} {α : AL} {ν : Nat → Nat → Bool} {X : XM} {h : AH} {k : Int} {i mc ms : Nat} {Q : RT → AH → Prop} (hl : (gX g).2.1 ≤ 2048) (hi : i + 3 < (gX g).2.1) (hT : TR g α ν X h) (hI : INV k ν X) (hk : k ≤ 512) (kk : ∀ α' ν' X' h', FIX α α' → TR g α' ν' X' h' → INV (k + 1) ν' X' → Ev g M_L_law 2048 3533 (lsL g α (i : Int)) [] h' mc ms Q) : Ev g M_L_law 2048 848 (lsL g α (i : Int)) [] h (28 + mc) (287 + ms) Q := by
  obtain ⟨p1, r1, e1⟩ := scr_J ((gX g).2.2 (i + 1))
  obtain ⟨p2, r2, e2⟩ := scr_J ((gX g).2.2 (i + 2))
  obtain ⟨p3, r3, e3⟩ := scr_J ((gX g).2.2 (i + 3))
  obtain ⟨r, mc1, ms1, P, hr, hm1, hm2, hw, hp⟩ := pr_anyFormula hT hI r1 r2
  have hr31 : R31 r := ⟨by omega, by omega⟩
  refine ev_mono (mc := mc1 + mc) (ms := ms1 + ms) (by omega) (by omega) ?_
  refine ev_ald1 849 dL_law_848 rfl ?_
  refine ev_ald0 850 dL_law_849 rfl ?_
  refine ev_ild5 852 dL_law_850 rfl ?_
  refine tj_iconst 853 dL_law_852 rfl ?_
  refine tj_iadd 854 dL_law_853 rfl ?_
  refine lq_scr (i + 1) 855 (by omega) (by omega) hl e1 dL_law_854 rfl ?_
  refine ev_ald0 856 dL_law_855 rfl ?_
  refine ev_ild5 858 dL_law_856 rfl ?_
  refine tj_iconst 859 dL_law_858 rfl ?_
  refine tj_iadd 860 dL_law_859 rfl ?_
  refine lq_scr (i + 2) 861 (by omega) (by omega) hl e2 dL_law_860 rfl ?_
  refine ev_ald3 862 dL_law_861 rfl ?_
  refine lh_S (As := [.ref (α 0 0), .int (J p1), .int (J p2), .ref (α 90 0)]) 865 dL_law_862 lh_217 hw (by decide) rfl rfl (Nat.le_of_ble_eq_true rfl) rfl (fun h α' ν' X1 hT hP => ?_)
  obtain ⟨hf, z2, dm, hz2, htz, hdm, hm⟩ := hp _ _ _ _ hT hP
  rw [hf.2.1] at hm
  have hb := tr40 hT
  rw [hf.2.1] at hb
  refine ev_ist6 867 dL_law_865 rfl (by decide) rfl ?_
  refine ev_ald2 868 dL_law_867 rfl ?_
  refine ev_ald0 869 dL_law_868 rfl ?_
  refine ev_ild5 871 dL_law_869 rfl ?_
  refine tj_iconst 872 dL_law_871 rfl ?_
  refine tj_iadd 873 dL_law_872 rfl ?_
  refine lq_scr (i + 1) 874 (by omega) (by omega) hl e1 dL_law_873 rfl ?_
  refine ev_ald0 875 dL_law_874 rfl ?_
  refine ev_ild5 877 dL_law_875 rfl ?_
  refine tj_iconst 878 dL_law_877 rfl ?_
  refine tj_iadd 879 dL_law_878 rfl ?_
  refine lq_scr (i + 2) 880 (by omega) (by omega) hl e2 dL_law_879 rfl ?_
  refine tm_V2 883 14 dL_law_880 lkv_L_219 hb rfl rfl (by omega) (Nat.le_of_ble_eq_true rfl) hm (fun h X2 hT hq => ?_)
  obtain ⟨q1, q2, hI2⟩ := hq
  have hb := tr40 hT
  have hth := c_X12_thrown hT
  rw [hf.2.1] at hb
  rw [hf.2.1, q1] at hth
  refine ev_ist7 885 dL_law_883 rfl (by decide) rfl ?_
  refine ev_ald2 886 dL_law_885 rfl ?_
  refine tc_V0 889 14 dL_law_886 lkv_L_188 hb rfl rfl (by decide) (Nat.le_of_ble_eq_true rfl) hth ?_
  refine ev_ild6 891 dL_law_889 rfl ?_
  refine tj_icmp_eq 896 894 dL_law_891 (by decide) rfl hr31 hr31 (fun _ => ?_) (fun c => absurd rfl c)
  refine ev_ild6 898 dL_law_896 rfl ?_
  refine tj_if_ne 913 901 dL_law_898 (by decide) rfl hr31 (fun c0 => ?_) (fun c0 => ?_)
  · skip
    refine ev_goto 3533 dL_law_913 (by decide) ?_
    exact ev_locals lsL_le (kk _ _ _ _ hf hT hI2)
  · skip
    refine ev_ald3 902 dL_law_901 rfl ?_
    refine tj_iconst 903 dL_law_902 rfl ?_
    refine lq_lald 904 hT hf.2.2.1 rfl (q2 c0) dL_law_903 rfl ?_
    refine ev_ild7 906 dL_law_904 rfl ?_
    refine ev_i2l 907 dL_law_906 rfl ?_
    rw [J_i2l _ hz2]
    refine ev_lcmp 908 dL_law_907 rfl ?_
    rw [lcmp_self]
    refine tj_if_eq 913 911 dL_law_908 (by decide) rfl R31_0 (fun _ => ?_) (fun c => absurd rfl c)
    refine ev_goto 3533 dL_law_913 (by decide) ?_
    exact ev_locals lsL_le (kk _ _ _ _ hf hT hI2)
set_option maxRecDepth 100000 in
set_option maxHeartbeats 4000000 in
theorem sg_twoFormula {g : Gt} {α : AL} {ν : Nat → Nat → Bool} {X : XM} {h : AH} {k : Int} {i mc ms : Nat} {Q : RT → AH → Prop} (hl : (gX g).2.1 ≤ 2048) (hi : i + 3 < (gX g).2.1) (hT : TR g α ν X h) (hI : INV k ν X) (hk : k ≤ 512) (kk : ∀ α' ν' X' h', FIX α α' → TR g α' ν' X' h' → INV (k + 1) ν' X' → Ev g M_L_law 2048 3533 (lsL g α (i : Int)) [] h' mc ms Q) : Ev g M_L_law 2048 916 (lsL g α (i : Int)) [] h (28 + mc) (287 + ms) Q := by
  obtain ⟨p1, r1, e1⟩ := scr_J ((gX g).2.2 (i + 1))
  obtain ⟨p2, r2, e2⟩ := scr_J ((gX g).2.2 (i + 2))
  obtain ⟨p3, r3, e3⟩ := scr_J ((gX g).2.2 (i + 3))
  obtain ⟨r, mc1, ms1, P, hr, hm1, hm2, hw, hp⟩ := pr_twoFormula hT hI r1 r2 r3
  have hr31 : R31 r := ⟨by omega, by omega⟩
  refine ev_mono (mc := mc1 + mc) (ms := ms1 + ms) (by omega) (by omega) ?_
  refine ev_ald1 917 dL_law_916 rfl ?_
  refine ev_ald0 918 dL_law_917 rfl ?_
  refine ev_ild5 920 dL_law_918 rfl ?_
  refine tj_iconst 921 dL_law_920 rfl ?_
  refine tj_iadd 922 dL_law_921 rfl ?_
  refine lq_scr (i + 1) 923 (by omega) (by omega) hl e1 dL_law_922 rfl ?_
  refine ev_ald0 924 dL_law_923 rfl ?_
  refine ev_ild5 926 dL_law_924 rfl ?_
  refine tj_iconst 927 dL_law_926 rfl ?_
  refine tj_iadd 928 dL_law_927 rfl ?_
  refine lq_scr (i + 2) 929 (by omega) (by omega) hl e2 dL_law_928 rfl ?_
  refine ev_ald0 930 dL_law_929 rfl ?_
  refine ev_ild5 932 dL_law_930 rfl ?_
  refine tj_iconst 933 dL_law_932 rfl ?_
  refine tj_iadd 934 dL_law_933 rfl ?_
  refine lq_scr (i + 3) 935 (by omega) (by omega) hl e3 dL_law_934 rfl ?_
  refine ev_ald3 936 dL_law_935 rfl ?_
  refine lh_S (As := [.ref (α 0 0), .int (J p1), .int (J p2), .int (J p3), .ref (α 90 0)]) 939 dL_law_936 lh_220 hw (by decide) rfl rfl (Nat.le_of_ble_eq_true rfl) rfl (fun h α' ν' X1 hT hP => ?_)
  obtain ⟨hf, z2, dm, hz2, htz, hdm, hm⟩ := hp _ _ _ _ hT hP
  rw [hf.2.1] at hm
  have hb := tr40 hT
  rw [hf.2.1] at hb
  refine ev_ist6 941 dL_law_939 rfl (by decide) rfl ?_
  refine ev_ald2 942 dL_law_941 rfl ?_
  refine ev_ald0 943 dL_law_942 rfl ?_
  refine ev_ild5 945 dL_law_943 rfl ?_
  refine tj_iconst 946 dL_law_945 rfl ?_
  refine tj_iadd 947 dL_law_946 rfl ?_
  refine lq_scr (i + 1) 948 (by omega) (by omega) hl e1 dL_law_947 rfl ?_
  refine ev_ald0 949 dL_law_948 rfl ?_
  refine ev_ild5 951 dL_law_949 rfl ?_
  refine tj_iconst 952 dL_law_951 rfl ?_
  refine tj_iadd 953 dL_law_952 rfl ?_
  refine lq_scr (i + 2) 954 (by omega) (by omega) hl e2 dL_law_953 rfl ?_
  refine ev_ald0 955 dL_law_954 rfl ?_
  refine ev_ild5 957 dL_law_955 rfl ?_
  refine tj_iconst 958 dL_law_957 rfl ?_
  refine tj_iadd 959 dL_law_958 rfl ?_
  refine lq_scr (i + 3) 960 (by omega) (by omega) hl e3 dL_law_959 rfl ?_
  refine tm_V3 963 14 dL_law_960 lkv_L_222 hb rfl rfl (by omega) (Nat.le_of_ble_eq_true rfl) hm (fun h X2 hT hq => ?_)
  obtain ⟨q1, q2, hI2⟩ := hq
  have hb := tr40 hT
  have hth := c_X12_thrown hT
  rw [hf.2.1] at hb
  rw [hf.2.1, q1] at hth
  refine ev_ist7 965 dL_law_963 rfl (by decide) rfl ?_
  refine ev_ald2 966 dL_law_965 rfl ?_
  refine tc_V0 969 14 dL_law_966 lkv_L_188 hb rfl rfl (by decide) (Nat.le_of_ble_eq_true rfl) hth ?_
  refine ev_ild6 971 dL_law_969 rfl ?_
  refine tj_icmp_eq 976 974 dL_law_971 (by decide) rfl hr31 hr31 (fun _ => ?_) (fun c => absurd rfl c)
  refine ev_ild6 978 dL_law_976 rfl ?_
  refine tj_if_ne 993 981 dL_law_978 (by decide) rfl hr31 (fun c0 => ?_) (fun c0 => ?_)
  · skip
    refine ev_goto 3533 dL_law_993 (by decide) ?_
    exact ev_locals lsL_le (kk _ _ _ _ hf hT hI2)
  · skip
    refine ev_ald3 982 dL_law_981 rfl ?_
    refine tj_iconst 983 dL_law_982 rfl ?_
    refine lq_lald 984 hT hf.2.2.1 rfl (q2 c0) dL_law_983 rfl ?_
    refine ev_ild7 986 dL_law_984 rfl ?_
    refine ev_i2l 987 dL_law_986 rfl ?_
    rw [J_i2l _ hz2]
    refine ev_lcmp 988 dL_law_987 rfl ?_
    rw [lcmp_self]
    refine tj_if_eq 993 991 dL_law_988 (by decide) rfl R31_0 (fun _ => ?_) (fun c => absurd rfl c)
    refine ev_goto 3533 dL_law_993 (by decide) ?_
    exact ev_locals lsL_le (kk _ _ _ _ hf hT hI2)
set_option maxRecDepth 100000 in
set_option maxHeartbeats 4000000 in
theorem sg_noneFormula {g : Gt} {α : AL} {ν : Nat → Nat → Bool} {X : XM} {h : AH} {k : Int} {i mc ms : Nat} {Q : RT → AH → Prop} (hl : (gX g).2.1 ≤ 2048) (hi : i + 3 < (gX g).2.1) (hT : TR g α ν X h) (hI : INV k ν X) (hk : k ≤ 512) (kk : ∀ α' ν' X' h', FIX α α' → TR g α' ν' X' h' → INV (k + 1) ν' X' → Ev g M_L_law 2048 3533 (lsL g α (i : Int)) [] h' mc ms Q) : Ev g M_L_law 2048 996 (lsL g α (i : Int)) [] h (28 + mc) (287 + ms) Q := by
  obtain ⟨p1, r1, e1⟩ := scr_J ((gX g).2.2 (i + 1))
  obtain ⟨p2, r2, e2⟩ := scr_J ((gX g).2.2 (i + 2))
  obtain ⟨p3, r3, e3⟩ := scr_J ((gX g).2.2 (i + 3))
  obtain ⟨r, mc1, ms1, P, hr, hm1, hm2, hw, hp⟩ := pr_noneFormula hT hI r1
  have hr31 : R31 r := ⟨by omega, by omega⟩
  refine ev_mono (mc := mc1 + mc) (ms := ms1 + ms) (by omega) (by omega) ?_
  refine ev_ald1 997 dL_law_996 rfl ?_
  refine ev_ald0 998 dL_law_997 rfl ?_
  refine ev_ild5 1000 dL_law_998 rfl ?_
  refine tj_iconst 1001 dL_law_1000 rfl ?_
  refine tj_iadd 1002 dL_law_1001 rfl ?_
  refine lq_scr (i + 1) 1003 (by omega) (by omega) hl e1 dL_law_1002 rfl ?_
  refine ev_ald3 1004 dL_law_1003 rfl ?_
  refine lh_S (As := [.ref (α 0 0), .int (J p1), .ref (α 90 0)]) 1007 dL_law_1004 lh_223 hw (by decide) rfl rfl (Nat.le_of_ble_eq_true rfl) rfl (fun h α' ν' X1 hT hP => ?_)
  obtain ⟨hf, z2, dm, hz2, htz, hdm, hm⟩ := hp _ _ _ _ hT hP
  rw [hf.2.1] at hm
  have hb := tr40 hT
  rw [hf.2.1] at hb
  refine ev_ist6 1009 dL_law_1007 rfl (by decide) rfl ?_
  refine ev_ald2 1010 dL_law_1009 rfl ?_
  refine ev_ald0 1011 dL_law_1010 rfl ?_
  refine ev_ild5 1013 dL_law_1011 rfl ?_
  refine tj_iconst 1014 dL_law_1013 rfl ?_
  refine tj_iadd 1015 dL_law_1014 rfl ?_
  refine lq_scr (i + 1) 1016 (by omega) (by omega) hl e1 dL_law_1015 rfl ?_
  refine tm_V1 1019 14 dL_law_1016 lkv_L_225 hb rfl rfl (by omega) (Nat.le_of_ble_eq_true rfl) hm (fun h X2 hT hq => ?_)
  obtain ⟨q1, q2, hI2⟩ := hq
  have hb := tr40 hT
  have hth := c_X12_thrown hT
  rw [hf.2.1] at hb
  rw [hf.2.1, q1] at hth
  refine ev_ist7 1021 dL_law_1019 rfl (by decide) rfl ?_
  refine ev_ald2 1022 dL_law_1021 rfl ?_
  refine tc_V0 1025 14 dL_law_1022 lkv_L_188 hb rfl rfl (by decide) (Nat.le_of_ble_eq_true rfl) hth ?_
  refine ev_ild6 1027 dL_law_1025 rfl ?_
  refine tj_icmp_eq 1032 1030 dL_law_1027 (by decide) rfl hr31 hr31 (fun _ => ?_) (fun c => absurd rfl c)
  refine ev_ild6 1034 dL_law_1032 rfl ?_
  refine tj_if_ne 1049 1037 dL_law_1034 (by decide) rfl hr31 (fun c0 => ?_) (fun c0 => ?_)
  · skip
    refine ev_goto 3533 dL_law_1049 (by decide) ?_
    exact ev_locals lsL_le (kk _ _ _ _ hf hT hI2)
  · skip
    refine ev_ald3 1038 dL_law_1037 rfl ?_
    refine tj_iconst 1039 dL_law_1038 rfl ?_
    refine lq_lald 1040 hT hf.2.2.1 rfl (q2 c0) dL_law_1039 rfl ?_
    refine ev_ild7 1042 dL_law_1040 rfl ?_
    refine ev_i2l 1043 dL_law_1042 rfl ?_
    rw [J_i2l _ hz2]
    refine ev_lcmp 1044 dL_law_1043 rfl ?_
    rw [lcmp_self]
    refine tj_if_eq 1049 1047 dL_law_1044 (by decide) rfl R31_0 (fun _ => ?_) (fun c => absurd rfl c)
    refine ev_goto 3533 dL_law_1049 (by decide) ?_
    exact ev_locals lsL_le (kk _ _ _ _ hf hT hI2)
set_option maxRecDepth 100000 in
set_option maxHeartbeats 4000000 in
theorem sg_holds {g : Gt} {α : AL} {ν : Nat → Nat → Bool} {X : XM} {h : AH} {k : Int} {i mc ms : Nat} {Q : RT → AH → Prop} (hl : (gX g).2.1 ≤ 2048) (hi : i + 3 < (gX g).2.1) (hT : TR g α ν X h) (hI : INV k ν X) (hk : k ≤ 512) (kk : ∀ α' ν' X' h', FIX α α' → TR g α' ν' X' h' → INV (k + 1) ν' X' → Ev g M_L_law 2048 3533 (lsL g α (i : Int)) [] h' mc ms Q) : Ev g M_L_law 2048 1052 (lsL g α (i : Int)) [] h (28 + mc) (287 + ms) Q := by
  obtain ⟨p1, r1, e1⟩ := scr_J ((gX g).2.2 (i + 1))
  obtain ⟨p2, r2, e2⟩ := scr_J ((gX g).2.2 (i + 2))
  obtain ⟨p3, r3, e3⟩ := scr_J ((gX g).2.2 (i + 3))
  obtain ⟨r, mc1, ms1, P, hr, hm1, hm2, hw, hp⟩ := pr_holds hT hI r1 r2
  have hr31 : R31 r := ⟨by omega, by omega⟩
  refine ev_mono (mc := mc1 + mc) (ms := ms1 + ms) (by omega) (by omega) ?_
  refine ev_ald1 1053 dL_law_1052 rfl ?_
  refine ev_ald0 1054 dL_law_1053 rfl ?_
  refine ev_ild5 1056 dL_law_1054 rfl ?_
  refine tj_iconst 1057 dL_law_1056 rfl ?_
  refine tj_iadd 1058 dL_law_1057 rfl ?_
  refine lq_scr (i + 1) 1059 (by omega) (by omega) hl e1 dL_law_1058 rfl ?_
  refine ev_ald0 1060 dL_law_1059 rfl ?_
  refine ev_ild5 1062 dL_law_1060 rfl ?_
  refine tj_iconst 1063 dL_law_1062 rfl ?_
  refine tj_iadd 1064 dL_law_1063 rfl ?_
  refine lq_scr (i + 2) 1065 (by omega) (by omega) hl e2 dL_law_1064 rfl ?_
  refine ev_ald3 1066 dL_law_1065 rfl ?_
  refine lh_S (As := [.ref (α 0 0), .int (J p1), .int (J p2), .ref (α 90 0)]) 1069 dL_law_1066 lh_226 hw (by decide) rfl rfl (Nat.le_of_ble_eq_true rfl) rfl (fun h α' ν' X1 hT hP => ?_)
  obtain ⟨hf, z2, dm, hz2, htz, hdm, hm⟩ := hp _ _ _ _ hT hP
  rw [hf.2.1] at hm
  have hb := tr40 hT
  rw [hf.2.1] at hb
  refine ev_ist6 1071 dL_law_1069 rfl (by decide) rfl ?_
  refine ev_ald2 1072 dL_law_1071 rfl ?_
  refine ev_ald0 1073 dL_law_1072 rfl ?_
  refine ev_ild5 1075 dL_law_1073 rfl ?_
  refine tj_iconst 1076 dL_law_1075 rfl ?_
  refine tj_iadd 1077 dL_law_1076 rfl ?_
  refine lq_scr (i + 1) 1078 (by omega) (by omega) hl e1 dL_law_1077 rfl ?_
  refine ev_ald0 1079 dL_law_1078 rfl ?_
  refine ev_ild5 1081 dL_law_1079 rfl ?_
  refine tj_iconst 1082 dL_law_1081 rfl ?_
  refine tj_iadd 1083 dL_law_1082 rfl ?_
  refine lq_scr (i + 2) 1084 (by omega) (by omega) hl e2 dL_law_1083 rfl ?_
  refine tm_V2 1087 14 dL_law_1084 lkv_L_228 hb rfl rfl (by omega) (Nat.le_of_ble_eq_true rfl) hm (fun h X2 hT hq => ?_)
  obtain ⟨q1, q2, hI2⟩ := hq
  have hb := tr40 hT
  have hth := c_X12_thrown hT
  rw [hf.2.1] at hb
  rw [hf.2.1, q1] at hth
  refine ev_ist7 1089 dL_law_1087 rfl (by decide) rfl ?_
  refine ev_ald2 1090 dL_law_1089 rfl ?_
  refine tc_V0 1093 14 dL_law_1090 lkv_L_188 hb rfl rfl (by decide) (Nat.le_of_ble_eq_true rfl) hth ?_
  refine ev_ild6 1095 dL_law_1093 rfl ?_
  refine tj_icmp_eq 1100 1098 dL_law_1095 (by decide) rfl hr31 hr31 (fun _ => ?_) (fun c => absurd rfl c)
  refine ev_ild6 1102 dL_law_1100 rfl ?_
  refine tj_if_ne 1124 1105 dL_law_1102 (by decide) rfl hr31 (fun c0 => ?_) (fun c0 => ?_)
  · skip
    refine ev_goto 3533 dL_law_1124 (by decide) ?_
    exact ev_locals lsL_le (kk _ _ _ _ hf hT hI2)
  · skip
    refine ev_ald3 1106 dL_law_1105 rfl ?_
    refine tj_iconst 1107 dL_law_1106 rfl ?_
    refine lq_lald 1108 hT hf.2.2.1 rfl (q2 c0) dL_law_1107 rfl ?_
    obtain ⟨b, rfl⟩ := htz c0
    refine ev_ild7 1110 dL_law_1108 rfl ?_
    cases b with
    | false =>
      refine tb_if_eq 1117 1113 dL_law_1110 (by decide) rfl (fun c1 => ?_) (fun c1 => ?_)
      · skip
        refine ev_lconst (Int64.ofInt (bi false)) 1118 dL_law_1117 (by decide) rfl ?_
        refine ev_lcmp 1119 dL_law_1118 rfl ?_
        rw [lcmp_self]
        refine tj_if_eq 1124 1122 dL_law_1119 (by decide) rfl R31_0 (fun _ => ?_) (fun c => absurd rfl c)
        refine ev_goto 3533 dL_law_1124 (by decide) ?_
        exact ev_locals lsL_le (kk _ _ _ _ hf hT hI2)
      · cases c1
    | true =>
      refine tb_if_eq 1117 1113 dL_law_1110 (by decide) rfl (fun c1 => ?_) (fun c1 => ?_)
      · cases c1
      · skip
        refine ev_lconst (Int64.ofInt (bi true)) 1114 dL_law_1113 (by decide) rfl ?_
        refine ev_goto 1118 dL_law_1114 (by decide) ?_
        refine ev_lcmp 1119 dL_law_1118 rfl ?_
        rw [lcmp_self]
        refine tj_if_eq 1124 1122 dL_law_1119 (by decide) rfl R31_0 (fun _ => ?_) (fun c => absurd rfl c)
        refine ev_goto 3533 dL_law_1124 (by decide) ?_
        exact ev_locals lsL_le (kk _ _ _ _ hf hT hI2)
set_option maxRecDepth 100000 in
set_option maxHeartbeats 4000000 in
theorem sg_require {g : Gt} {α : AL} {ν : Nat → Nat → Bool} {X : XM} {h : AH} {k : Int} {i mc ms : Nat} {Q : RT → AH → Prop} (hl : (gX g).2.1 ≤ 2048) (hi : i + 3 < (gX g).2.1) (hT : TR g α ν X h) (hI : INV k ν X) (hk : k ≤ 512) (kk : ∀ α' ν' X' h', FIX α α' → TR g α' ν' X' h' → INV (k + 1) ν' X' → Ev g M_L_law 2048 3533 (lsL g α (i : Int)) [] h' mc ms Q) : Ev g M_L_law 2048 1127 (lsL g α (i : Int)) [] h (28 + mc) (287 + ms) Q := by
  obtain ⟨p1, r1, e1⟩ := scr_J ((gX g).2.2 (i + 1))
  obtain ⟨p2, r2, e2⟩ := scr_J ((gX g).2.2 (i + 2))
  obtain ⟨p3, r3, e3⟩ := scr_J ((gX g).2.2 (i + 3))
  obtain ⟨r, mc1, ms1, P, hr, hm1, hm2, hw, hp⟩ := pr_require hT hI r1 r2
  have hr31 : R31 r := ⟨by omega, by omega⟩
  refine ev_mono (mc := mc1 + mc) (ms := ms1 + ms) (by omega) (by omega) ?_
  refine ev_ald1 1128 dL_law_1127 rfl ?_
  refine ev_ald0 1129 dL_law_1128 rfl ?_
  refine ev_ild5 1131 dL_law_1129 rfl ?_
  refine tj_iconst 1132 dL_law_1131 rfl ?_
  refine tj_iadd 1133 dL_law_1132 rfl ?_
  refine lq_scr (i + 1) 1134 (by omega) (by omega) hl e1 dL_law_1133 rfl ?_
  refine ev_ald0 1135 dL_law_1134 rfl ?_
  refine ev_ild5 1137 dL_law_1135 rfl ?_
  refine tj_iconst 1138 dL_law_1137 rfl ?_
  refine tj_iadd 1139 dL_law_1138 rfl ?_
  refine lq_scr (i + 2) 1140 (by omega) (by omega) hl e2 dL_law_1139 rfl ?_
  refine ev_ald3 1141 dL_law_1140 rfl ?_
  refine lh_S (As := [.ref (α 0 0), .int (J p1), .int (J p2), .ref (α 90 0)]) 1144 dL_law_1141 lh_229 hw (by decide) rfl rfl (Nat.le_of_ble_eq_true rfl) rfl (fun h α' ν' X1 hT hP => ?_)
  obtain ⟨hf, z2, dm, hz2, htz, hdm, hm⟩ := hp _ _ _ _ hT hP
  rw [hf.2.1] at hm
  have hb := tr40 hT
  rw [hf.2.1] at hb
  refine ev_ist6 1146 dL_law_1144 rfl (by decide) rfl ?_
  refine ev_ald2 1147 dL_law_1146 rfl ?_
  refine ev_ald0 1148 dL_law_1147 rfl ?_
  refine ev_ild5 1150 dL_law_1148 rfl ?_
  refine tj_iconst 1151 dL_law_1150 rfl ?_
  refine tj_iadd 1152 dL_law_1151 rfl ?_
  refine lq_scr (i + 1) 1153 (by omega) (by omega) hl e1 dL_law_1152 rfl ?_
  refine ev_ald0 1154 dL_law_1153 rfl ?_
  refine ev_ild5 1156 dL_law_1154 rfl ?_
  refine tj_iconst 1157 dL_law_1156 rfl ?_
  refine tj_iadd 1158 dL_law_1157 rfl ?_
  refine lq_scr (i + 2) 1159 (by omega) (by omega) hl e2 dL_law_1158 rfl ?_
  refine tm_V2 1162 14 dL_law_1159 lkv_L_231 hb rfl rfl (by omega) (Nat.le_of_ble_eq_true rfl) hm (fun h X2 hT hq => ?_)
  obtain ⟨q1, q2, hI2⟩ := hq
  have hb := tr40 hT
  have hth := c_X12_thrown hT
  rw [hf.2.1] at hb
  rw [hf.2.1, q1] at hth
  refine ev_ist7 1164 dL_law_1162 rfl (by decide) rfl ?_
  refine ev_ald2 1165 dL_law_1164 rfl ?_
  refine tc_V0 1168 14 dL_law_1165 lkv_L_188 hb rfl rfl (by decide) (Nat.le_of_ble_eq_true rfl) hth ?_
  refine ev_ild6 1170 dL_law_1168 rfl ?_
  refine tj_icmp_eq 1175 1173 dL_law_1170 (by decide) rfl hr31 hr31 (fun _ => ?_) (fun c => absurd rfl c)
  refine ev_ild6 1177 dL_law_1175 rfl ?_
  refine tj_if_ne 1199 1180 dL_law_1177 (by decide) rfl hr31 (fun c0 => ?_) (fun c0 => ?_)
  · skip
    refine ev_goto 3533 dL_law_1199 (by decide) ?_
    exact ev_locals lsL_le (kk _ _ _ _ hf hT hI2)
  · skip
    refine ev_ald3 1181 dL_law_1180 rfl ?_
    refine tj_iconst 1182 dL_law_1181 rfl ?_
    refine lq_lald 1183 hT hf.2.2.1 rfl (q2 c0) dL_law_1182 rfl ?_
    obtain ⟨b, rfl⟩ := htz c0
    refine ev_ild7 1185 dL_law_1183 rfl ?_
    cases b with
    | false =>
      refine tb_if_eq 1192 1188 dL_law_1185 (by decide) rfl (fun c1 => ?_) (fun c1 => ?_)
      · skip
        refine ev_lconst (Int64.ofInt (bi false)) 1193 dL_law_1192 (by decide) rfl ?_
        refine ev_lcmp 1194 dL_law_1193 rfl ?_
        rw [lcmp_self]
        refine tj_if_eq 1199 1197 dL_law_1194 (by decide) rfl R31_0 (fun _ => ?_) (fun c => absurd rfl c)
        refine ev_goto 3533 dL_law_1199 (by decide) ?_
        exact ev_locals lsL_le (kk _ _ _ _ hf hT hI2)
      · cases c1
    | true =>
      refine tb_if_eq 1192 1188 dL_law_1185 (by decide) rfl (fun c1 => ?_) (fun c1 => ?_)
      · cases c1
      · skip
        refine ev_lconst (Int64.ofInt (bi true)) 1189 dL_law_1188 (by decide) rfl ?_
        refine ev_goto 1193 dL_law_1189 (by decide) ?_
        refine ev_lcmp 1194 dL_law_1193 rfl ?_
        rw [lcmp_self]
        refine tj_if_eq 1199 1197 dL_law_1194 (by decide) rfl R31_0 (fun _ => ?_) (fun c => absurd rfl c)
        refine ev_goto 3533 dL_law_1199 (by decide) ?_
        exact ev_locals lsL_le (kk _ _ _ _ hf hT hI2)
set_option maxRecDepth 100000 in
set_option maxHeartbeats 4000000 in
theorem sg_lift {g : Gt} {α : AL} {ν : Nat → Nat → Bool} {X : XM} {h : AH} {k : Int} {i mc ms : Nat} {Q : RT → AH → Prop} (hl : (gX g).2.1 ≤ 2048) (hi : i + 3 < (gX g).2.1) (hT : TR g α ν X h) (hI : INV k ν X) (hk : k ≤ 512) (kk : ∀ α' ν' X' h', FIX α α' → TR g α' ν' X' h' → INV (k + 1) ν' X' → Ev g M_L_law 2048 3533 (lsL g α (i : Int)) [] h' mc ms Q) : Ev g M_L_law 2048 1202 (lsL g α (i : Int)) [] h (28 + mc) (287 + ms) Q := by
  obtain ⟨p1, r1, e1⟩ := scr_J ((gX g).2.2 (i + 1))
  obtain ⟨p2, r2, e2⟩ := scr_J ((gX g).2.2 (i + 2))
  obtain ⟨p3, r3, e3⟩ := scr_J ((gX g).2.2 (i + 3))
  obtain ⟨r, mc1, ms1, P, hr, hm1, hm2, hw, hp⟩ := pr_lift hT hI r1
  have hr31 : R31 r := ⟨by omega, by omega⟩
  refine ev_mono (mc := mc1 + mc) (ms := ms1 + ms) (by omega) (by omega) ?_
  refine ev_ald1 1203 dL_law_1202 rfl ?_
  refine ev_ald0 1204 dL_law_1203 rfl ?_
  refine ev_ild5 1206 dL_law_1204 rfl ?_
  refine tj_iconst 1207 dL_law_1206 rfl ?_
  refine tj_iadd 1208 dL_law_1207 rfl ?_
  refine lq_scr (i + 1) 1209 (by omega) (by omega) hl e1 dL_law_1208 rfl ?_
  refine ev_ald3 1210 dL_law_1209 rfl ?_
  refine lh_S (As := [.ref (α 0 0), .int (J p1), .ref (α 90 0)]) 1213 dL_law_1210 lh_232 hw (by decide) rfl rfl (Nat.le_of_ble_eq_true rfl) rfl (fun h α' ν' X1 hT hP => ?_)
  obtain ⟨hf, z2, dm, hz2, htz, hdm, hm⟩ := hp _ _ _ _ hT hP
  rw [hf.2.1] at hm
  have hb := tr40 hT
  rw [hf.2.1] at hb
  refine ev_ist6 1215 dL_law_1213 rfl (by decide) rfl ?_
  refine ev_ald2 1216 dL_law_1215 rfl ?_
  refine ev_ald0 1217 dL_law_1216 rfl ?_
  refine ev_ild5 1219 dL_law_1217 rfl ?_
  refine tj_iconst 1220 dL_law_1219 rfl ?_
  refine tj_iadd 1221 dL_law_1220 rfl ?_
  refine lq_scr (i + 1) 1222 (by omega) (by omega) hl e1 dL_law_1221 rfl ?_
  refine tm_V1 1225 14 dL_law_1222 lkv_L_234 hb rfl rfl (by omega) (Nat.le_of_ble_eq_true rfl) hm (fun h X2 hT hq => ?_)
  obtain ⟨q1, q2, hI2⟩ := hq
  have hb := tr40 hT
  have hth := c_X12_thrown hT
  rw [hf.2.1] at hb
  rw [hf.2.1, q1] at hth
  refine ev_ist7 1227 dL_law_1225 rfl (by decide) rfl ?_
  refine ev_ald2 1228 dL_law_1227 rfl ?_
  refine tc_V0 1231 14 dL_law_1228 lkv_L_188 hb rfl rfl (by decide) (Nat.le_of_ble_eq_true rfl) hth ?_
  refine ev_ild6 1233 dL_law_1231 rfl ?_
  refine tj_icmp_eq 1238 1236 dL_law_1233 (by decide) rfl hr31 hr31 (fun _ => ?_) (fun c => absurd rfl c)
  refine ev_ild6 1240 dL_law_1238 rfl ?_
  refine tj_if_ne 1262 1243 dL_law_1240 (by decide) rfl hr31 (fun c0 => ?_) (fun c0 => ?_)
  · skip
    refine ev_goto 3533 dL_law_1262 (by decide) ?_
    exact ev_locals lsL_le (kk _ _ _ _ hf hT hI2)
  · skip
    refine ev_ald3 1244 dL_law_1243 rfl ?_
    refine tj_iconst 1245 dL_law_1244 rfl ?_
    refine lq_lald 1246 hT hf.2.2.1 rfl (q2 c0) dL_law_1245 rfl ?_
    obtain ⟨b, rfl⟩ := htz c0
    refine ev_ild7 1248 dL_law_1246 rfl ?_
    cases b with
    | false =>
      refine tb_if_eq 1255 1251 dL_law_1248 (by decide) rfl (fun c1 => ?_) (fun c1 => ?_)
      · skip
        refine ev_lconst (Int64.ofInt (bi false)) 1256 dL_law_1255 (by decide) rfl ?_
        refine ev_lcmp 1257 dL_law_1256 rfl ?_
        rw [lcmp_self]
        refine tj_if_eq 1262 1260 dL_law_1257 (by decide) rfl R31_0 (fun _ => ?_) (fun c => absurd rfl c)
        refine ev_goto 3533 dL_law_1262 (by decide) ?_
        exact ev_locals lsL_le (kk _ _ _ _ hf hT hI2)
      · cases c1
    | true =>
      refine tb_if_eq 1255 1251 dL_law_1248 (by decide) rfl (fun c1 => ?_) (fun c1 => ?_)
      · cases c1
      · skip
        refine ev_lconst (Int64.ofInt (bi true)) 1252 dL_law_1251 (by decide) rfl ?_
        refine ev_goto 1256 dL_law_1252 (by decide) ?_
        refine ev_lcmp 1257 dL_law_1256 rfl ?_
        rw [lcmp_self]
        refine tj_if_eq 1262 1260 dL_law_1257 (by decide) rfl R31_0 (fun _ => ?_) (fun c => absurd rfl c)
        refine ev_goto 3533 dL_law_1262 (by decide) ?_
        exact ev_locals lsL_le (kk _ _ _ _ hf hT hI2)
set_option maxRecDepth 100000 in
set_option maxHeartbeats 4000000 in
theorem sg_pass {g : Gt} {α : AL} {ν : Nat → Nat → Bool} {X : XM} {h : AH} {k : Int} {i mc ms : Nat} {Q : RT → AH → Prop} (hl : (gX g).2.1 ≤ 2048) (hi : i + 3 < (gX g).2.1) (hT : TR g α ν X h) (hI : INV k ν X) (hk : k ≤ 512) (kk : ∀ α' ν' X' h', FIX α α' → TR g α' ν' X' h' → INV (k + 1) ν' X' → Ev g M_L_law 2048 3533 (lsL g α (i : Int)) [] h' mc ms Q) : Ev g M_L_law 2048 1265 (lsL g α (i : Int)) [] h (28 + mc) (287 + ms) Q := by
  obtain ⟨p1, r1, e1⟩ := scr_J ((gX g).2.2 (i + 1))
  obtain ⟨p2, r2, e2⟩ := scr_J ((gX g).2.2 (i + 2))
  obtain ⟨p3, r3, e3⟩ := scr_J ((gX g).2.2 (i + 3))
  obtain ⟨r, mc1, ms1, P, hr, hm1, hm2, hw, hp⟩ := pr_pass hT hI r1
  have hr31 : R31 r := ⟨by omega, by omega⟩
  refine ev_mono (mc := mc1 + mc) (ms := ms1 + ms) (by omega) (by omega) ?_
  refine ev_ald1 1266 dL_law_1265 rfl ?_
  refine ev_ald0 1267 dL_law_1266 rfl ?_
  refine ev_ild5 1269 dL_law_1267 rfl ?_
  refine tj_iconst 1270 dL_law_1269 rfl ?_
  refine tj_iadd 1271 dL_law_1270 rfl ?_
  refine lq_scr (i + 1) 1272 (by omega) (by omega) hl e1 dL_law_1271 rfl ?_
  refine ev_ald3 1273 dL_law_1272 rfl ?_
  refine lh_S (As := [.ref (α 0 0), .int (J p1), .ref (α 90 0)]) 1276 dL_law_1273 lh_235 hw (by decide) rfl rfl (Nat.le_of_ble_eq_true rfl) rfl (fun h α' ν' X1 hT hP => ?_)
  obtain ⟨hf, z2, dm, hz2, htz, hdm, hm⟩ := hp _ _ _ _ hT hP
  rw [hf.2.1] at hm
  have hb := tr40 hT
  rw [hf.2.1] at hb
  refine ev_ist6 1278 dL_law_1276 rfl (by decide) rfl ?_
  refine ev_ald2 1279 dL_law_1278 rfl ?_
  refine ev_ald0 1280 dL_law_1279 rfl ?_
  refine ev_ild5 1282 dL_law_1280 rfl ?_
  refine tj_iconst 1283 dL_law_1282 rfl ?_
  refine tj_iadd 1284 dL_law_1283 rfl ?_
  refine lq_scr (i + 1) 1285 (by omega) (by omega) hl e1 dL_law_1284 rfl ?_
  refine tm_V1 1288 14 dL_law_1285 lkv_L_237 hb rfl rfl (by omega) (Nat.le_of_ble_eq_true rfl) hm (fun h X2 hT hq => ?_)
  obtain ⟨q1, q2, hI2⟩ := hq
  have hb := tr40 hT
  have hth := c_X12_thrown hT
  rw [hf.2.1] at hb
  rw [hf.2.1, q1] at hth
  refine ev_ist7 1290 dL_law_1288 rfl (by decide) rfl ?_
  refine ev_ald2 1291 dL_law_1290 rfl ?_
  refine tc_V0 1294 14 dL_law_1291 lkv_L_188 hb rfl rfl (by decide) (Nat.le_of_ble_eq_true rfl) hth ?_
  refine ev_ild6 1296 dL_law_1294 rfl ?_
  refine tj_icmp_eq 1301 1299 dL_law_1296 (by decide) rfl hr31 hr31 (fun _ => ?_) (fun c => absurd rfl c)
  refine ev_ild6 1303 dL_law_1301 rfl ?_
  refine tj_if_ne 1318 1306 dL_law_1303 (by decide) rfl hr31 (fun c0 => ?_) (fun c0 => ?_)
  · skip
    refine ev_goto 3533 dL_law_1318 (by decide) ?_
    exact ev_locals lsL_le (kk _ _ _ _ hf hT hI2)
  · skip
    refine ev_ald3 1307 dL_law_1306 rfl ?_
    refine tj_iconst 1308 dL_law_1307 rfl ?_
    refine lq_lald 1309 hT hf.2.2.1 rfl (q2 c0) dL_law_1308 rfl ?_
    refine ev_ild7 1311 dL_law_1309 rfl ?_
    refine ev_i2l 1312 dL_law_1311 rfl ?_
    rw [J_i2l _ hz2]
    refine ev_lcmp 1313 dL_law_1312 rfl ?_
    rw [lcmp_self]
    refine tj_if_eq 1318 1316 dL_law_1313 (by decide) rfl R31_0 (fun _ => ?_) (fun c => absurd rfl c)
    refine ev_goto 3533 dL_law_1318 (by decide) ?_
    exact ev_locals lsL_le (kk _ _ _ _ hf hT hI2)
set_option maxRecDepth 100000 in
set_option maxHeartbeats 4000000 in
theorem sg_enroll {g : Gt} {α : AL} {ν : Nat → Nat → Bool} {X : XM} {h : AH} {k : Int} {i mc ms : Nat} {Q : RT → AH → Prop} (hl : (gX g).2.1 ≤ 2048) (hi : i + 3 < (gX g).2.1) (hT : TR g α ν X h) (hI : INV k ν X) (hk : k ≤ 512) (kk : ∀ α' ν' X' h', FIX α α' → TR g α' ν' X' h' → INV (k + 1) ν' X' → Ev g M_L_law 2048 3533 (lsL g α (i : Int)) [] h' mc ms Q) : Ev g M_L_law 2048 1347 (lsL g α (i : Int)) [] h (28 + mc) (287 + ms) Q := by
  obtain ⟨p1, r1, e1⟩ := scr_J ((gX g).2.2 (i + 1))
  obtain ⟨p2, r2, e2⟩ := scr_J ((gX g).2.2 (i + 2))
  obtain ⟨p3, r3, e3⟩ := scr_J ((gX g).2.2 (i + 3))
  obtain ⟨r, mc1, ms1, P, hr, hm1, hm2, hw, hp⟩ := pr_enroll hT hI r1 r2
  have hr31 : R31 r := ⟨by omega, by omega⟩
  refine ev_mono (mc := mc1 + mc) (ms := ms1 + ms) (by omega) (by omega) ?_
  refine ev_ald1 1348 dL_law_1347 rfl ?_
  refine ev_ald0 1349 dL_law_1348 rfl ?_
  refine ev_ild5 1351 dL_law_1349 rfl ?_
  refine tj_iconst 1352 dL_law_1351 rfl ?_
  refine tj_iadd 1353 dL_law_1352 rfl ?_
  refine lq_scr (i + 1) 1354 (by omega) (by omega) hl e1 dL_law_1353 rfl ?_
  refine ev_ald0 1355 dL_law_1354 rfl ?_
  refine ev_ild5 1357 dL_law_1355 rfl ?_
  refine tj_iconst 1358 dL_law_1357 rfl ?_
  refine tj_iadd 1359 dL_law_1358 rfl ?_
  refine lq_scr (i + 2) 1360 (by omega) (by omega) hl e2 dL_law_1359 rfl ?_
  refine ev_ald3 1361 dL_law_1360 rfl ?_
  refine lh_S (As := [.ref (α 0 0), .int (J p1), .int (J p2), .ref (α 90 0)]) 1364 dL_law_1361 lh_246 hw (by decide) rfl rfl (Nat.le_of_ble_eq_true rfl) rfl (fun h α' ν' X1 hT hP => ?_)
  obtain ⟨hf, z2, dm, hz2, htz, hdm, hm⟩ := hp _ _ _ _ hT hP
  rw [hf.2.1] at hm
  have hb := tr40 hT
  rw [hf.2.1] at hb
  refine ev_ist6 1366 dL_law_1364 rfl (by decide) rfl ?_
  refine ev_ald2 1367 dL_law_1366 rfl ?_
  refine ev_ald0 1368 dL_law_1367 rfl ?_
  refine ev_ild5 1370 dL_law_1368 rfl ?_
  refine tj_iconst 1371 dL_law_1370 rfl ?_
  refine tj_iadd 1372 dL_law_1371 rfl ?_
  refine lq_scr (i + 1) 1373 (by omega) (by omega) hl e1 dL_law_1372 rfl ?_
  refine ev_ald0 1374 dL_law_1373 rfl ?_
  refine ev_ild5 1376 dL_law_1374 rfl ?_
  refine tj_iconst 1377 dL_law_1376 rfl ?_
  refine tj_iadd 1378 dL_law_1377 rfl ?_
  refine lq_scr (i + 2) 1379 (by omega) (by omega) hl e2 dL_law_1378 rfl ?_
  refine tm_V2 1382 14 dL_law_1379 lkv_L_248 hb rfl rfl (by omega) (Nat.le_of_ble_eq_true rfl) hm (fun h X2 hT hq => ?_)
  obtain ⟨q1, q2, hI2⟩ := hq
  have hb := tr40 hT
  have hth := c_X12_thrown hT
  rw [hf.2.1] at hb
  rw [hf.2.1, q1] at hth
  refine ev_ist7 1384 dL_law_1382 rfl (by decide) rfl ?_
  refine ev_ald2 1385 dL_law_1384 rfl ?_
  refine tc_V0 1388 14 dL_law_1385 lkv_L_188 hb rfl rfl (by decide) (Nat.le_of_ble_eq_true rfl) hth ?_
  refine ev_ild6 1390 dL_law_1388 rfl ?_
  refine tj_icmp_eq 1395 1393 dL_law_1390 (by decide) rfl hr31 hr31 (fun _ => ?_) (fun c => absurd rfl c)
  refine ev_ild6 1397 dL_law_1395 rfl ?_
  refine tj_if_ne 1412 1400 dL_law_1397 (by decide) rfl hr31 (fun c0 => ?_) (fun c0 => ?_)
  · skip
    refine ev_goto 3533 dL_law_1412 (by decide) ?_
    exact ev_locals lsL_le (kk _ _ _ _ hf hT hI2)
  · skip
    refine ev_ald3 1401 dL_law_1400 rfl ?_
    refine tj_iconst 1402 dL_law_1401 rfl ?_
    refine lq_lald 1403 hT hf.2.2.1 rfl (q2 c0) dL_law_1402 rfl ?_
    refine ev_ild7 1405 dL_law_1403 rfl ?_
    refine ev_i2l 1406 dL_law_1405 rfl ?_
    rw [J_i2l _ hz2]
    refine ev_lcmp 1407 dL_law_1406 rfl ?_
    rw [lcmp_self]
    refine tj_if_eq 1412 1410 dL_law_1407 (by decide) rfl R31_0 (fun _ => ?_) (fun c => absurd rfl c)
    refine ev_goto 3533 dL_law_1412 (by decide) ?_
    exact ev_locals lsL_le (kk _ _ _ _ hf hT hI2)
set_option maxRecDepth 100000 in
set_option maxHeartbeats 4000000 in
theorem sg_outcome {g : Gt} {α : AL} {ν : Nat → Nat → Bool} {X : XM} {h : AH} {k : Int} {i mc ms : Nat} {Q : RT → AH → Prop} (hl : (gX g).2.1 ≤ 2048) (hi : i + 3 < (gX g).2.1) (hT : TR g α ν X h) (hI : INV k ν X) (hk : k ≤ 512) (kk : ∀ α' ν' X' h', FIX α α' → TR g α' ν' X' h' → INV (k + 1) ν' X' → Ev g M_L_law 2048 3533 (lsL g α (i : Int)) [] h' mc ms Q) : Ev g M_L_law 2048 1415 (lsL g α (i : Int)) [] h (28 + mc) (287 + ms) Q := by
  obtain ⟨p1, r1, e1⟩ := scr_J ((gX g).2.2 (i + 1))
  obtain ⟨p2, r2, e2⟩ := scr_J ((gX g).2.2 (i + 2))
  obtain ⟨p3, r3, e3⟩ := scr_J ((gX g).2.2 (i + 3))
  obtain ⟨r, mc1, ms1, P, hr, hm1, hm2, hw, hp⟩ := pr_outcome hT hI r1 r2
  have hr31 : R31 r := ⟨by omega, by omega⟩
  refine ev_mono (mc := mc1 + mc) (ms := ms1 + ms) (by omega) (by omega) ?_
  refine ev_ald1 1416 dL_law_1415 rfl ?_
  refine ev_ald0 1417 dL_law_1416 rfl ?_
  refine ev_ild5 1419 dL_law_1417 rfl ?_
  refine tj_iconst 1420 dL_law_1419 rfl ?_
  refine tj_iadd 1421 dL_law_1420 rfl ?_
  refine lq_scr (i + 1) 1422 (by omega) (by omega) hl e1 dL_law_1421 rfl ?_
  refine ev_ald0 1423 dL_law_1422 rfl ?_
  refine ev_ild5 1425 dL_law_1423 rfl ?_
  refine tj_iconst 1426 dL_law_1425 rfl ?_
  refine tj_iadd 1427 dL_law_1426 rfl ?_
  refine lq_scr (i + 2) 1428 (by omega) (by omega) hl e2 dL_law_1427 rfl ?_
  refine ev_ald3 1429 dL_law_1428 rfl ?_
  refine lh_S (As := [.ref (α 0 0), .int (J p1), .int (J p2), .ref (α 90 0)]) 1432 dL_law_1429 lh_249 hw (by decide) rfl rfl (Nat.le_of_ble_eq_true rfl) rfl (fun h α' ν' X1 hT hP => ?_)
  obtain ⟨hf, z2, dm, hz2, htz, hdm, hm⟩ := hp _ _ _ _ hT hP
  rw [hf.2.1] at hm
  have hb := tr40 hT
  rw [hf.2.1] at hb
  refine ev_ist6 1434 dL_law_1432 rfl (by decide) rfl ?_
  refine ev_ald2 1435 dL_law_1434 rfl ?_
  refine ev_ald0 1436 dL_law_1435 rfl ?_
  refine ev_ild5 1438 dL_law_1436 rfl ?_
  refine tj_iconst 1439 dL_law_1438 rfl ?_
  refine tj_iadd 1440 dL_law_1439 rfl ?_
  refine lq_scr (i + 1) 1441 (by omega) (by omega) hl e1 dL_law_1440 rfl ?_
  refine ev_ald0 1442 dL_law_1441 rfl ?_
  refine ev_ild5 1444 dL_law_1442 rfl ?_
  refine tj_iconst 1445 dL_law_1444 rfl ?_
  refine tj_iadd 1446 dL_law_1445 rfl ?_
  refine lq_scr (i + 2) 1447 (by omega) (by omega) hl e2 dL_law_1446 rfl ?_
  refine tm_V2 1450 14 dL_law_1447 lkv_L_251 hb rfl rfl (by omega) (Nat.le_of_ble_eq_true rfl) hm (fun h X2 hT hq => ?_)
  obtain ⟨q1, q2, hI2⟩ := hq
  have hb := tr40 hT
  have hth := c_X12_thrown hT
  rw [hf.2.1] at hb
  rw [hf.2.1, q1] at hth
  refine ev_ist7 1452 dL_law_1450 rfl (by decide) rfl ?_
  refine ev_ald2 1453 dL_law_1452 rfl ?_
  refine tc_V0 1456 14 dL_law_1453 lkv_L_188 hb rfl rfl (by decide) (Nat.le_of_ble_eq_true rfl) hth ?_
  refine ev_ild6 1458 dL_law_1456 rfl ?_
  refine tj_icmp_eq 1463 1461 dL_law_1458 (by decide) rfl hr31 hr31 (fun _ => ?_) (fun c => absurd rfl c)
  refine ev_ild6 1465 dL_law_1463 rfl ?_
  refine tj_if_ne 1480 1468 dL_law_1465 (by decide) rfl hr31 (fun c0 => ?_) (fun c0 => ?_)
  · skip
    refine ev_goto 3533 dL_law_1480 (by decide) ?_
    exact ev_locals lsL_le (kk _ _ _ _ hf hT hI2)
  · skip
    refine ev_ald3 1469 dL_law_1468 rfl ?_
    refine tj_iconst 1470 dL_law_1469 rfl ?_
    refine lq_lald 1471 hT hf.2.2.1 rfl (q2 c0) dL_law_1470 rfl ?_
    refine ev_ild7 1473 dL_law_1471 rfl ?_
    refine ev_i2l 1474 dL_law_1473 rfl ?_
    rw [J_i2l _ hz2]
    refine ev_lcmp 1475 dL_law_1474 rfl ?_
    rw [lcmp_self]
    refine tj_if_eq 1480 1478 dL_law_1475 (by decide) rfl R31_0 (fun _ => ?_) (fun c => absurd rfl c)
    refine ev_goto 3533 dL_law_1480 (by decide) ?_
    exact ev_locals lsL_le (kk _ _ _ _ hf hT hI2)
set_option maxRecDepth 100000 in
set_option maxHeartbeats 4000000 in
theorem sg_drop {g : Gt} {α : AL} {ν : Nat → Nat → Bool} {X : XM} {h : AH} {k : Int} {i mc ms : Nat} {Q : RT → AH → Prop} (hl : (gX g).2.1 ≤ 2048) (hi : i + 3 < (gX g).2.1) (hT : TR g α ν X h) (hI : INV k ν X) (hk : k ≤ 512) (kk : ∀ α' ν' X' h', FIX α α' → TR g α' ν' X' h' → INV (k + 1) ν' X' → Ev g M_L_law 2048 3533 (lsL g α (i : Int)) [] h' mc ms Q) : Ev g M_L_law 2048 1483 (lsL g α (i : Int)) [] h (28 + mc) (287 + ms) Q := by
  obtain ⟨p1, r1, e1⟩ := scr_J ((gX g).2.2 (i + 1))
  obtain ⟨p2, r2, e2⟩ := scr_J ((gX g).2.2 (i + 2))
  obtain ⟨p3, r3, e3⟩ := scr_J ((gX g).2.2 (i + 3))
  obtain ⟨r, mc1, ms1, P, hr, hm1, hm2, hw, hp⟩ := pr_drop hT hI r1 r2
  have hr31 : R31 r := ⟨by omega, by omega⟩
  refine ev_mono (mc := mc1 + mc) (ms := ms1 + ms) (by omega) (by omega) ?_
  refine ev_ald1 1484 dL_law_1483 rfl ?_
  refine ev_ald0 1485 dL_law_1484 rfl ?_
  refine ev_ild5 1487 dL_law_1485 rfl ?_
  refine tj_iconst 1488 dL_law_1487 rfl ?_
  refine tj_iadd 1489 dL_law_1488 rfl ?_
  refine lq_scr (i + 1) 1490 (by omega) (by omega) hl e1 dL_law_1489 rfl ?_
  refine ev_ald0 1491 dL_law_1490 rfl ?_
  refine ev_ild5 1493 dL_law_1491 rfl ?_
  refine tj_iconst 1494 dL_law_1493 rfl ?_
  refine tj_iadd 1495 dL_law_1494 rfl ?_
  refine lq_scr (i + 2) 1496 (by omega) (by omega) hl e2 dL_law_1495 rfl ?_
  refine ev_ald3 1497 dL_law_1496 rfl ?_
  refine lh_S (As := [.ref (α 0 0), .int (J p1), .int (J p2), .ref (α 90 0)]) 1500 dL_law_1497 lh_252 hw (by decide) rfl rfl (Nat.le_of_ble_eq_true rfl) rfl (fun h α' ν' X1 hT hP => ?_)
  obtain ⟨hf, z2, dm, hz2, htz, hdm, hm⟩ := hp _ _ _ _ hT hP
  rw [hf.2.1] at hm
  have hb := tr40 hT
  rw [hf.2.1] at hb
  refine ev_ist6 1502 dL_law_1500 rfl (by decide) rfl ?_
  refine ev_ald2 1503 dL_law_1502 rfl ?_
  refine ev_ald0 1504 dL_law_1503 rfl ?_
  refine ev_ild5 1506 dL_law_1504 rfl ?_
  refine tj_iconst 1507 dL_law_1506 rfl ?_
  refine tj_iadd 1508 dL_law_1507 rfl ?_
  refine lq_scr (i + 1) 1509 (by omega) (by omega) hl e1 dL_law_1508 rfl ?_
  refine ev_ald0 1510 dL_law_1509 rfl ?_
  refine ev_ild5 1512 dL_law_1510 rfl ?_
  refine tj_iconst 1513 dL_law_1512 rfl ?_
  refine tj_iadd 1514 dL_law_1513 rfl ?_
  refine lq_scr (i + 2) 1515 (by omega) (by omega) hl e2 dL_law_1514 rfl ?_
  refine tm_V2 1518 14 dL_law_1515 lkv_L_254 hb rfl rfl (by omega) (Nat.le_of_ble_eq_true rfl) hm (fun h X2 hT hq => ?_)
  obtain ⟨q1, q2, hI2⟩ := hq
  have hb := tr40 hT
  have hth := c_X12_thrown hT
  rw [hf.2.1] at hb
  rw [hf.2.1, q1] at hth
  refine ev_ist7 1520 dL_law_1518 rfl (by decide) rfl ?_
  refine ev_ald2 1521 dL_law_1520 rfl ?_
  refine tc_V0 1524 14 dL_law_1521 lkv_L_188 hb rfl rfl (by decide) (Nat.le_of_ble_eq_true rfl) hth ?_
  refine ev_ild6 1526 dL_law_1524 rfl ?_
  refine tj_icmp_eq 1531 1529 dL_law_1526 (by decide) rfl hr31 hr31 (fun _ => ?_) (fun c => absurd rfl c)
  refine ev_ild6 1533 dL_law_1531 rfl ?_
  refine tj_if_ne 1548 1536 dL_law_1533 (by decide) rfl hr31 (fun c0 => ?_) (fun c0 => ?_)
  · skip
    refine ev_goto 3533 dL_law_1548 (by decide) ?_
    exact ev_locals lsL_le (kk _ _ _ _ hf hT hI2)
  · skip
    refine ev_ald3 1537 dL_law_1536 rfl ?_
    refine tj_iconst 1538 dL_law_1537 rfl ?_
    refine lq_lald 1539 hT hf.2.2.1 rfl (q2 c0) dL_law_1538 rfl ?_
    refine ev_ild7 1541 dL_law_1539 rfl ?_
    refine ev_i2l 1542 dL_law_1541 rfl ?_
    rw [J_i2l _ hz2]
    refine ev_lcmp 1543 dL_law_1542 rfl ?_
    rw [lcmp_self]
    refine tj_if_eq 1548 1546 dL_law_1543 (by decide) rfl R31_0 (fun _ => ?_) (fun c => absurd rfl c)
    refine ev_goto 3533 dL_law_1548 (by decide) ?_
    exact ev_locals lsL_le (kk _ _ _ _ hf hT hI2)
set_option maxRecDepth 100000 in
set_option maxHeartbeats 4000000 in
theorem sg_swap {g : Gt} {α : AL} {ν : Nat → Nat → Bool} {X : XM} {h : AH} {k : Int} {i mc ms : Nat} {Q : RT → AH → Prop} (hl : (gX g).2.1 ≤ 2048) (hi : i + 3 < (gX g).2.1) (hT : TR g α ν X h) (hI : INV k ν X) (hk : k ≤ 512) (kk : ∀ α' ν' X' h', FIX α α' → TR g α' ν' X' h' → INV (k + 1) ν' X' → Ev g M_L_law 2048 3533 (lsL g α (i : Int)) [] h' mc ms Q) : Ev g M_L_law 2048 1551 (lsL g α (i : Int)) [] h (28 + mc) (287 + ms) Q := by
  obtain ⟨p1, r1, e1⟩ := scr_J ((gX g).2.2 (i + 1))
  obtain ⟨p2, r2, e2⟩ := scr_J ((gX g).2.2 (i + 2))
  obtain ⟨p3, r3, e3⟩ := scr_J ((gX g).2.2 (i + 3))
  obtain ⟨r, mc1, ms1, P, hr, hm1, hm2, hw, hp⟩ := pr_swap hT hI r1 r2 r3
  have hr31 : R31 r := ⟨by omega, by omega⟩
  refine ev_mono (mc := mc1 + mc) (ms := ms1 + ms) (by omega) (by omega) ?_
  refine ev_ald1 1552 dL_law_1551 rfl ?_
  refine ev_ald0 1553 dL_law_1552 rfl ?_
  refine ev_ild5 1555 dL_law_1553 rfl ?_
  refine tj_iconst 1556 dL_law_1555 rfl ?_
  refine tj_iadd 1557 dL_law_1556 rfl ?_
  refine lq_scr (i + 1) 1558 (by omega) (by omega) hl e1 dL_law_1557 rfl ?_
  refine ev_ald0 1559 dL_law_1558 rfl ?_
  refine ev_ild5 1561 dL_law_1559 rfl ?_
  refine tj_iconst 1562 dL_law_1561 rfl ?_
  refine tj_iadd 1563 dL_law_1562 rfl ?_
  refine lq_scr (i + 2) 1564 (by omega) (by omega) hl e2 dL_law_1563 rfl ?_
  refine ev_ald0 1565 dL_law_1564 rfl ?_
  refine ev_ild5 1567 dL_law_1565 rfl ?_
  refine tj_iconst 1568 dL_law_1567 rfl ?_
  refine tj_iadd 1569 dL_law_1568 rfl ?_
  refine lq_scr (i + 3) 1570 (by omega) (by omega) hl e3 dL_law_1569 rfl ?_
  refine ev_ald3 1571 dL_law_1570 rfl ?_
  refine lh_S (As := [.ref (α 0 0), .int (J p1), .int (J p2), .int (J p3), .ref (α 90 0)]) 1574 dL_law_1571 lh_255 hw (by decide) rfl rfl (Nat.le_of_ble_eq_true rfl) rfl (fun h α' ν' X1 hT hP => ?_)
  obtain ⟨hf, z2, dm, hz2, htz, hdm, hm⟩ := hp _ _ _ _ hT hP
  rw [hf.2.1] at hm
  have hb := tr40 hT
  rw [hf.2.1] at hb
  refine ev_ist6 1576 dL_law_1574 rfl (by decide) rfl ?_
  refine ev_ald2 1577 dL_law_1576 rfl ?_
  refine ev_ald0 1578 dL_law_1577 rfl ?_
  refine ev_ild5 1580 dL_law_1578 rfl ?_
  refine tj_iconst 1581 dL_law_1580 rfl ?_
  refine tj_iadd 1582 dL_law_1581 rfl ?_
  refine lq_scr (i + 1) 1583 (by omega) (by omega) hl e1 dL_law_1582 rfl ?_
  refine ev_ald0 1584 dL_law_1583 rfl ?_
  refine ev_ild5 1586 dL_law_1584 rfl ?_
  refine tj_iconst 1587 dL_law_1586 rfl ?_
  refine tj_iadd 1588 dL_law_1587 rfl ?_
  refine lq_scr (i + 2) 1589 (by omega) (by omega) hl e2 dL_law_1588 rfl ?_
  refine ev_ald0 1590 dL_law_1589 rfl ?_
  refine ev_ild5 1592 dL_law_1590 rfl ?_
  refine tj_iconst 1593 dL_law_1592 rfl ?_
  refine tj_iadd 1594 dL_law_1593 rfl ?_
  refine lq_scr (i + 3) 1595 (by omega) (by omega) hl e3 dL_law_1594 rfl ?_
  refine tm_V3 1598 14 dL_law_1595 lkv_L_257 hb rfl rfl (by omega) (Nat.le_of_ble_eq_true rfl) hm (fun h X2 hT hq => ?_)
  obtain ⟨q1, q2, hI2⟩ := hq
  have hb := tr40 hT
  have hth := c_X12_thrown hT
  rw [hf.2.1] at hb
  rw [hf.2.1, q1] at hth
  refine ev_ist7 1600 dL_law_1598 rfl (by decide) rfl ?_
  refine ev_ald2 1601 dL_law_1600 rfl ?_
  refine tc_V0 1604 14 dL_law_1601 lkv_L_188 hb rfl rfl (by decide) (Nat.le_of_ble_eq_true rfl) hth ?_
  refine ev_ild6 1606 dL_law_1604 rfl ?_
  refine tj_icmp_eq 1611 1609 dL_law_1606 (by decide) rfl hr31 hr31 (fun _ => ?_) (fun c => absurd rfl c)
  refine ev_ild6 1613 dL_law_1611 rfl ?_
  refine tj_if_ne 1628 1616 dL_law_1613 (by decide) rfl hr31 (fun c0 => ?_) (fun c0 => ?_)
  · skip
    refine ev_goto 3533 dL_law_1628 (by decide) ?_
    exact ev_locals lsL_le (kk _ _ _ _ hf hT hI2)
  · skip
    refine ev_ald3 1617 dL_law_1616 rfl ?_
    refine tj_iconst 1618 dL_law_1617 rfl ?_
    refine lq_lald 1619 hT hf.2.2.1 rfl (q2 c0) dL_law_1618 rfl ?_
    refine ev_ild7 1621 dL_law_1619 rfl ?_
    refine ev_i2l 1622 dL_law_1621 rfl ?_
    rw [J_i2l _ hz2]
    refine ev_lcmp 1623 dL_law_1622 rfl ?_
    rw [lcmp_self]
    refine tj_if_eq 1628 1626 dL_law_1623 (by decide) rfl R31_0 (fun _ => ?_) (fun c => absurd rfl c)
    refine ev_goto 3533 dL_law_1628 (by decide) ?_
    exact ev_locals lsL_le (kk _ _ _ _ hf hT hI2)
set_option maxRecDepth 100000 in
set_option maxHeartbeats 4000000 in
theorem sg_mark {g : Gt} {α : AL} {ν : Nat → Nat → Bool} {X : XM} {h : AH} {k : Int} {i mc ms : Nat} {Q : RT → AH → Prop} (hl : (gX g).2.1 ≤ 2048) (hi : i + 3 < (gX g).2.1) (hT : TR g α ν X h) (hI : INV k ν X) (hk : k ≤ 512) (kk : ∀ α' ν' X' h', FIX α α' → TR g α' ν' X' h' → INV (k + 1) ν' X' → Ev g M_L_law 2048 3533 (lsL g α (i : Int)) [] h' mc ms Q) : Ev g M_L_law 2048 1631 (lsL g α (i : Int)) [] h (28 + mc) (287 + ms) Q := by
  obtain ⟨p1, r1, e1⟩ := scr_J ((gX g).2.2 (i + 1))
  obtain ⟨p2, r2, e2⟩ := scr_J ((gX g).2.2 (i + 2))
  obtain ⟨p3, r3, e3⟩ := scr_J ((gX g).2.2 (i + 3))
  obtain ⟨r, mc1, ms1, P, hr, hm1, hm2, hw, hp⟩ := pr_mark hT hI r1 r2 r3
  have hr31 : R31 r := ⟨by omega, by omega⟩
  refine ev_mono (mc := mc1 + mc) (ms := ms1 + ms) (by omega) (by omega) ?_
  refine ev_ald1 1632 dL_law_1631 rfl ?_
  refine ev_ald0 1633 dL_law_1632 rfl ?_
  refine ev_ild5 1635 dL_law_1633 rfl ?_
  refine tj_iconst 1636 dL_law_1635 rfl ?_
  refine tj_iadd 1637 dL_law_1636 rfl ?_
  refine lq_scr (i + 1) 1638 (by omega) (by omega) hl e1 dL_law_1637 rfl ?_
  refine ev_ald0 1639 dL_law_1638 rfl ?_
  refine ev_ild5 1641 dL_law_1639 rfl ?_
  refine tj_iconst 1642 dL_law_1641 rfl ?_
  refine tj_iadd 1643 dL_law_1642 rfl ?_
  refine lq_scr (i + 2) 1644 (by omega) (by omega) hl e2 dL_law_1643 rfl ?_
  refine ev_ald0 1645 dL_law_1644 rfl ?_
  refine ev_ild5 1647 dL_law_1645 rfl ?_
  refine tj_iconst 1648 dL_law_1647 rfl ?_
  refine tj_iadd 1649 dL_law_1648 rfl ?_
  refine lq_scr (i + 3) 1650 (by omega) (by omega) hl e3 dL_law_1649 rfl ?_
  refine ev_ald3 1651 dL_law_1650 rfl ?_
  refine lh_S (As := [.ref (α 0 0), .int (J p1), .int (J p2), .int (J p3), .ref (α 90 0)]) 1654 dL_law_1651 lh_258 hw (by decide) rfl rfl (Nat.le_of_ble_eq_true rfl) rfl (fun h α' ν' X1 hT hP => ?_)
  obtain ⟨hf, z2, dm, hz2, htz, hdm, hm⟩ := hp _ _ _ _ hT hP
  rw [hf.2.1] at hm
  have hb := tr40 hT
  rw [hf.2.1] at hb
  refine ev_ist6 1656 dL_law_1654 rfl (by decide) rfl ?_
  refine ev_ald2 1657 dL_law_1656 rfl ?_
  refine ev_ald0 1658 dL_law_1657 rfl ?_
  refine ev_ild5 1660 dL_law_1658 rfl ?_
  refine tj_iconst 1661 dL_law_1660 rfl ?_
  refine tj_iadd 1662 dL_law_1661 rfl ?_
  refine lq_scr (i + 1) 1663 (by omega) (by omega) hl e1 dL_law_1662 rfl ?_
  refine ev_ald0 1664 dL_law_1663 rfl ?_
  refine ev_ild5 1666 dL_law_1664 rfl ?_
  refine tj_iconst 1667 dL_law_1666 rfl ?_
  refine tj_iadd 1668 dL_law_1667 rfl ?_
  refine lq_scr (i + 2) 1669 (by omega) (by omega) hl e2 dL_law_1668 rfl ?_
  refine ev_ald0 1670 dL_law_1669 rfl ?_
  refine ev_ild5 1672 dL_law_1670 rfl ?_
  refine tj_iconst 1673 dL_law_1672 rfl ?_
  refine tj_iadd 1674 dL_law_1673 rfl ?_
  refine lq_scr (i + 3) 1675 (by omega) (by omega) hl e3 dL_law_1674 rfl ?_
  refine tm_V3 1678 14 dL_law_1675 lkv_L_260 hb rfl rfl (by omega) (Nat.le_of_ble_eq_true rfl) hm (fun h X2 hT hq => ?_)
  obtain ⟨q1, q2, hI2⟩ := hq
  have hb := tr40 hT
  have hth := c_X12_thrown hT
  rw [hf.2.1] at hb
  rw [hf.2.1, q1] at hth
  refine ev_ist7 1680 dL_law_1678 rfl (by decide) rfl ?_
  refine ev_ald2 1681 dL_law_1680 rfl ?_
  refine tc_V0 1684 14 dL_law_1681 lkv_L_188 hb rfl rfl (by decide) (Nat.le_of_ble_eq_true rfl) hth ?_
  refine ev_ild6 1686 dL_law_1684 rfl ?_
  refine tj_icmp_eq 1691 1689 dL_law_1686 (by decide) rfl hr31 hr31 (fun _ => ?_) (fun c => absurd rfl c)
  refine ev_ild6 1693 dL_law_1691 rfl ?_
  refine tj_if_ne 1715 1696 dL_law_1693 (by decide) rfl hr31 (fun c0 => ?_) (fun c0 => ?_)
  · skip
    refine ev_goto 3533 dL_law_1715 (by decide) ?_
    exact ev_locals lsL_le (kk _ _ _ _ hf hT hI2)
  · skip
    refine ev_ald3 1697 dL_law_1696 rfl ?_
    refine tj_iconst 1698 dL_law_1697 rfl ?_
    refine lq_lald 1699 hT hf.2.2.1 rfl (q2 c0) dL_law_1698 rfl ?_
    obtain ⟨b, rfl⟩ := htz c0
    refine ev_ild7 1701 dL_law_1699 rfl ?_
    cases b with
    | false =>
      refine tb_if_eq 1708 1704 dL_law_1701 (by decide) rfl (fun c1 => ?_) (fun c1 => ?_)
      · skip
        refine ev_lconst (Int64.ofInt (bi false)) 1709 dL_law_1708 (by decide) rfl ?_
        refine ev_lcmp 1710 dL_law_1709 rfl ?_
        rw [lcmp_self]
        refine tj_if_eq 1715 1713 dL_law_1710 (by decide) rfl R31_0 (fun _ => ?_) (fun c => absurd rfl c)
        refine ev_goto 3533 dL_law_1715 (by decide) ?_
        exact ev_locals lsL_le (kk _ _ _ _ hf hT hI2)
      · cases c1
    | true =>
      refine tb_if_eq 1708 1704 dL_law_1701 (by decide) rfl (fun c1 => ?_) (fun c1 => ?_)
      · cases c1
      · skip
        refine ev_lconst (Int64.ofInt (bi true)) 1705 dL_law_1704 (by decide) rfl ?_
        refine ev_goto 1709 dL_law_1705 (by decide) ?_
        refine ev_lcmp 1710 dL_law_1709 rfl ?_
        rw [lcmp_self]
        refine tj_if_eq 1715 1713 dL_law_1710 (by decide) rfl R31_0 (fun _ => ?_) (fun c => absurd rfl c)
        refine ev_goto 3533 dL_law_1715 (by decide) ?_
        exact ev_locals lsL_le (kk _ _ _ _ hf hT hI2)
set_option maxRecDepth 100000 in
set_option maxHeartbeats 4000000 in
theorem sg_endTerm {g : Gt} {α : AL} {ν : Nat → Nat → Bool} {X : XM} {h : AH} {k : Int} {i mc ms : Nat} {Q : RT → AH → Prop} (hl : (gX g).2.1 ≤ 2048) (hi : i + 3 < (gX g).2.1) (hT : TR g α ν X h) (hI : INV k ν X) (hk : k ≤ 512) (kk : ∀ α' ν' X' h', FIX α α' → TR g α' ν' X' h' → INV (k + 1) ν' X' → Ev g M_L_law 2048 3533 (lsL g α (i : Int)) [] h' mc ms Q) : Ev g M_L_law 2048 1718 (lsL g α (i : Int)) [] h (28 + mc) (287 + ms) Q := by
  obtain ⟨p1, r1, e1⟩ := scr_J ((gX g).2.2 (i + 1))
  obtain ⟨p2, r2, e2⟩ := scr_J ((gX g).2.2 (i + 2))
  obtain ⟨p3, r3, e3⟩ := scr_J ((gX g).2.2 (i + 3))
  obtain ⟨r, mc1, ms1, P, hr, hm1, hm2, hw, hp⟩ := pr_endTerm hT hI (by omega)
  have hr31 : R31 r := ⟨by omega, by omega⟩
  refine ev_mono (mc := mc1 + mc) (ms := ms1 + ms) (by omega) (by omega) ?_
  refine ev_ald1 1719 dL_law_1718 rfl ?_
  refine ev_ald3 1720 dL_law_1719 rfl ?_
  refine lh_S (As := [.ref (α 0 0), .ref (α 90 0)]) 1723 dL_law_1720 lh_261 hw (by decide) rfl rfl (Nat.le_of_ble_eq_true rfl) rfl (fun h α' ν' X1 hT hP => ?_)
  obtain ⟨hf, z2, dm, hz2, htz, hdm, hm⟩ := hp _ _ _ _ hT hP
  rw [hf.2.1] at hm
  have hb := tr40 hT
  rw [hf.2.1] at hb
  refine ev_ist6 1725 dL_law_1723 rfl (by decide) rfl ?_
  refine ev_ald2 1726 dL_law_1725 rfl ?_
  refine tm_V0 1729 14 dL_law_1726 lkv_L_264 hb rfl rfl (by omega) (Nat.le_of_ble_eq_true rfl) hm (fun h X2 hT hq => ?_)
  obtain ⟨q1, q2, hI2⟩ := hq
  have hb := tr40 hT
  have hth := c_X12_thrown hT
  rw [hf.2.1] at hb
  rw [hf.2.1, q1] at hth
  refine ev_ist7 1731 dL_law_1729 rfl (by decide) rfl ?_
  refine ev_ald2 1732 dL_law_1731 rfl ?_
  refine tc_V0 1735 14 dL_law_1732 lkv_L_188 hb rfl rfl (by decide) (Nat.le_of_ble_eq_true rfl) hth ?_
  refine ev_ild6 1737 dL_law_1735 rfl ?_
  refine tj_icmp_eq 1742 1740 dL_law_1737 (by decide) rfl hr31 hr31 (fun _ => ?_) (fun c => absurd rfl c)
  refine ev_ild6 1744 dL_law_1742 rfl ?_
  refine tj_if_ne 1759 1747 dL_law_1744 (by decide) rfl hr31 (fun c0 => ?_) (fun c0 => ?_)
  · skip
    refine ev_goto 3533 dL_law_1759 (by decide) ?_
    exact ev_locals lsL_le (kk _ _ _ _ hf hT hI2)
  · skip
    refine ev_ald3 1748 dL_law_1747 rfl ?_
    refine tj_iconst 1749 dL_law_1748 rfl ?_
    refine lq_lald 1750 hT hf.2.2.1 rfl (q2 c0) dL_law_1749 rfl ?_
    refine ev_ild7 1752 dL_law_1750 rfl ?_
    refine ev_i2l 1753 dL_law_1752 rfl ?_
    rw [J_i2l _ hz2]
    refine ev_lcmp 1754 dL_law_1753 rfl ?_
    rw [lcmp_self]
    refine tj_if_eq 1759 1757 dL_law_1754 (by decide) rfl R31_0 (fun _ => ?_) (fun c => absurd rfl c)
    refine ev_goto 3533 dL_law_1759 (by decide) ?_
    exact ev_locals lsL_le (kk _ _ _ _ hf hT hI2)
set_option maxRecDepth 100000 in
set_option maxHeartbeats 4000000 in
theorem sg_moveIn {g : Gt} {α : AL} {ν : Nat → Nat → Bool} {X : XM} {h : AH} {k : Int} {i mc ms : Nat} {Q : RT → AH → Prop} (hl : (gX g).2.1 ≤ 2048) (hi : i + 3 < (gX g).2.1) (hT : TR g α ν X h) (hI : INV k ν X) (hk : k ≤ 512) (kk : ∀ α' ν' X' h', FIX α α' → TR g α' ν' X' h' → INV (k + 1) ν' X' → Ev g M_L_law 2048 3533 (lsL g α (i : Int)) [] h' mc ms Q) : Ev g M_L_law 2048 1762 (lsL g α (i : Int)) [] h (28 + mc) (287 + ms) Q := by
  obtain ⟨p1, r1, e1⟩ := scr_J ((gX g).2.2 (i + 1))
  obtain ⟨p2, r2, e2⟩ := scr_J ((gX g).2.2 (i + 2))
  obtain ⟨p3, r3, e3⟩ := scr_J ((gX g).2.2 (i + 3))
  obtain ⟨r, mc1, ms1, P, hr, hm1, hm2, hw, hp⟩ := pr_moveIn hT hI r1 r2
  have hr31 : R31 r := ⟨by omega, by omega⟩
  refine ev_mono (mc := mc1 + mc) (ms := ms1 + ms) (by omega) (by omega) ?_
  refine ev_ald1 1763 dL_law_1762 rfl ?_
  refine ev_ald0 1764 dL_law_1763 rfl ?_
  refine ev_ild5 1766 dL_law_1764 rfl ?_
  refine tj_iconst 1767 dL_law_1766 rfl ?_
  refine tj_iadd 1768 dL_law_1767 rfl ?_
  refine lq_scr (i + 1) 1769 (by omega) (by omega) hl e1 dL_law_1768 rfl ?_
  refine ev_ald0 1770 dL_law_1769 rfl ?_
  refine ev_ild5 1772 dL_law_1770 rfl ?_
  refine tj_iconst 1773 dL_law_1772 rfl ?_
  refine tj_iadd 1774 dL_law_1773 rfl ?_
  refine lq_scr (i + 2) 1775 (by omega) (by omega) hl e2 dL_law_1774 rfl ?_
  refine ev_ald3 1776 dL_law_1775 rfl ?_
  refine lh_S (As := [.ref (α 0 0), .int (J p1), .int (J p2), .ref (α 90 0)]) 1779 dL_law_1776 lh_265 hw (by decide) rfl rfl (Nat.le_of_ble_eq_true rfl) rfl (fun h α' ν' X1 hT hP => ?_)
  obtain ⟨hf, z2, dm, hz2, htz, hdm, hm⟩ := hp _ _ _ _ hT hP
  rw [hf.2.1] at hm
  have hb := tr40 hT
  rw [hf.2.1] at hb
  refine ev_ist6 1781 dL_law_1779 rfl (by decide) rfl ?_
  refine ev_ald2 1782 dL_law_1781 rfl ?_
  refine ev_ald0 1783 dL_law_1782 rfl ?_
  refine ev_ild5 1785 dL_law_1783 rfl ?_
  refine tj_iconst 1786 dL_law_1785 rfl ?_
  refine tj_iadd 1787 dL_law_1786 rfl ?_
  refine lq_scr (i + 1) 1788 (by omega) (by omega) hl e1 dL_law_1787 rfl ?_
  refine ev_ald0 1789 dL_law_1788 rfl ?_
  refine ev_ild5 1791 dL_law_1789 rfl ?_
  refine tj_iconst 1792 dL_law_1791 rfl ?_
  refine tj_iadd 1793 dL_law_1792 rfl ?_
  refine lq_scr (i + 2) 1794 (by omega) (by omega) hl e2 dL_law_1793 rfl ?_
  refine tm_V2 1797 14 dL_law_1794 lkv_L_267 hb rfl rfl (by omega) (Nat.le_of_ble_eq_true rfl) hm (fun h X2 hT hq => ?_)
  obtain ⟨q1, q2, hI2⟩ := hq
  have hb := tr40 hT
  have hth := c_X12_thrown hT
  rw [hf.2.1] at hb
  rw [hf.2.1, q1] at hth
  refine ev_ist7 1799 dL_law_1797 rfl (by decide) rfl ?_
  refine ev_ald2 1800 dL_law_1799 rfl ?_
  refine tc_V0 1803 14 dL_law_1800 lkv_L_188 hb rfl rfl (by decide) (Nat.le_of_ble_eq_true rfl) hth ?_
  refine ev_ild6 1805 dL_law_1803 rfl ?_
  refine tj_icmp_eq 1810 1808 dL_law_1805 (by decide) rfl hr31 hr31 (fun _ => ?_) (fun c => absurd rfl c)
  refine ev_ild6 1812 dL_law_1810 rfl ?_
  refine tj_if_ne 1827 1815 dL_law_1812 (by decide) rfl hr31 (fun c0 => ?_) (fun c0 => ?_)
  · skip
    refine ev_goto 3533 dL_law_1827 (by decide) ?_
    exact ev_locals lsL_le (kk _ _ _ _ hf hT hI2)
  · skip
    refine ev_ald3 1816 dL_law_1815 rfl ?_
    refine tj_iconst 1817 dL_law_1816 rfl ?_
    refine lq_lald 1818 hT hf.2.2.1 rfl (q2 c0) dL_law_1817 rfl ?_
    refine ev_ild7 1820 dL_law_1818 rfl ?_
    refine ev_i2l 1821 dL_law_1820 rfl ?_
    rw [J_i2l _ hz2]
    refine ev_lcmp 1822 dL_law_1821 rfl ?_
    rw [lcmp_self]
    refine tj_if_eq 1827 1825 dL_law_1822 (by decide) rfl R31_0 (fun _ => ?_) (fun c => absurd rfl c)
    refine ev_goto 3533 dL_law_1827 (by decide) ?_
    exact ev_locals lsL_le (kk _ _ _ _ hf hT hI2)
set_option maxRecDepth 100000 in
set_option maxHeartbeats 4000000 in
theorem sg_bestMark {g : Gt} {α : AL} {ν : Nat → Nat → Bool} {X : XM} {h : AH} {k : Int} {i mc ms : Nat} {Q : RT → AH → Prop} (hl : (gX g).2.1 ≤ 2048) (hi : i + 3 < (gX g).2.1) (hT : TR g α ν X h) (hI : INV k ν X) (hk : k ≤ 512) (kk : ∀ α' ν' X' h', FIX α α' → TR g α' ν' X' h' → INV (k + 1) ν' X' → Ev g M_L_law 2048 3533 (lsL g α (i : Int)) [] h' mc ms Q) : Ev g M_L_law 2048 1830 (lsL g α (i : Int)) [] h (28 + mc) (287 + ms) Q := by
  obtain ⟨p1, r1, e1⟩ := scr_J ((gX g).2.2 (i + 1))
  obtain ⟨p2, r2, e2⟩ := scr_J ((gX g).2.2 (i + 2))
  obtain ⟨p3, r3, e3⟩ := scr_J ((gX g).2.2 (i + 3))
  obtain ⟨r, mc1, ms1, P, hr, hm1, hm2, hw, hp⟩ := pr_bestMark hT hI r1 r2
  have hr31 : R31 r := ⟨by omega, by omega⟩
  refine ev_mono (mc := mc1 + mc) (ms := ms1 + ms) (by omega) (by omega) ?_
  refine ev_ald1 1831 dL_law_1830 rfl ?_
  refine ev_ald0 1832 dL_law_1831 rfl ?_
  refine ev_ild5 1834 dL_law_1832 rfl ?_
  refine tj_iconst 1835 dL_law_1834 rfl ?_
  refine tj_iadd 1836 dL_law_1835 rfl ?_
  refine lq_scr (i + 1) 1837 (by omega) (by omega) hl e1 dL_law_1836 rfl ?_
  refine ev_ald0 1838 dL_law_1837 rfl ?_
  refine ev_ild5 1840 dL_law_1838 rfl ?_
  refine tj_iconst 1841 dL_law_1840 rfl ?_
  refine tj_iadd 1842 dL_law_1841 rfl ?_
  refine lq_scr (i + 2) 1843 (by omega) (by omega) hl e2 dL_law_1842 rfl ?_
  refine ev_ald3 1844 dL_law_1843 rfl ?_
  refine lh_S (As := [.ref (α 0 0), .int (J p1), .int (J p2), .ref (α 90 0)]) 1847 dL_law_1844 lh_268 hw (by decide) rfl rfl (Nat.le_of_ble_eq_true rfl) rfl (fun h α' ν' X1 hT hP => ?_)
  obtain ⟨hf, z2, dm, hz2, htz, hdm, hm⟩ := hp _ _ _ _ hT hP
  rw [hf.2.1] at hm
  have hb := tr40 hT
  rw [hf.2.1] at hb
  refine ev_ist6 1849 dL_law_1847 rfl (by decide) rfl ?_
  refine ev_ald2 1850 dL_law_1849 rfl ?_
  refine ev_ald0 1851 dL_law_1850 rfl ?_
  refine ev_ild5 1853 dL_law_1851 rfl ?_
  refine tj_iconst 1854 dL_law_1853 rfl ?_
  refine tj_iadd 1855 dL_law_1854 rfl ?_
  refine lq_scr (i + 1) 1856 (by omega) (by omega) hl e1 dL_law_1855 rfl ?_
  refine ev_ald0 1857 dL_law_1856 rfl ?_
  refine ev_ild5 1859 dL_law_1857 rfl ?_
  refine tj_iconst 1860 dL_law_1859 rfl ?_
  refine tj_iadd 1861 dL_law_1860 rfl ?_
  refine lq_scr (i + 2) 1862 (by omega) (by omega) hl e2 dL_law_1861 rfl ?_
  refine tm_V2 1865 14 dL_law_1862 lkv_L_270 hb rfl rfl (by omega) (Nat.le_of_ble_eq_true rfl) hm (fun h X2 hT hq => ?_)
  obtain ⟨q1, q2, hI2⟩ := hq
  have hb := tr40 hT
  have hth := c_X12_thrown hT
  rw [hf.2.1] at hb
  rw [hf.2.1, q1] at hth
  refine ev_ist7 1867 dL_law_1865 rfl (by decide) rfl ?_
  refine ev_ald2 1868 dL_law_1867 rfl ?_
  refine tc_V0 1871 14 dL_law_1868 lkv_L_188 hb rfl rfl (by decide) (Nat.le_of_ble_eq_true rfl) hth ?_
  refine ev_ild6 1873 dL_law_1871 rfl ?_
  refine tj_icmp_eq 1878 1876 dL_law_1873 (by decide) rfl hr31 hr31 (fun _ => ?_) (fun c => absurd rfl c)
  refine ev_ild6 1880 dL_law_1878 rfl ?_
  refine tj_if_ne 1895 1883 dL_law_1880 (by decide) rfl hr31 (fun c0 => ?_) (fun c0 => ?_)
  · skip
    refine ev_goto 3533 dL_law_1895 (by decide) ?_
    exact ev_locals lsL_le (kk _ _ _ _ hf hT hI2)
  · skip
    refine ev_ald3 1884 dL_law_1883 rfl ?_
    refine tj_iconst 1885 dL_law_1884 rfl ?_
    refine lq_lald 1886 hT hf.2.2.1 rfl (q2 c0) dL_law_1885 rfl ?_
    refine ev_ild7 1888 dL_law_1886 rfl ?_
    refine ev_i2l 1889 dL_law_1888 rfl ?_
    rw [J_i2l _ hz2]
    refine ev_lcmp 1890 dL_law_1889 rfl ?_
    rw [lcmp_self]
    refine tj_if_eq 1895 1893 dL_law_1890 (by decide) rfl R31_0 (fun _ => ?_) (fun c => absurd rfl c)
    refine ev_goto 3533 dL_law_1895 (by decide) ?_
    exact ev_locals lsL_le (kk _ _ _ _ hf hT hI2)
set_option maxRecDepth 100000 in
set_option maxHeartbeats 4000000 in
theorem sg_attempts {g : Gt} {α : AL} {ν : Nat → Nat → Bool} {X : XM} {h : AH} {k : Int} {i mc ms : Nat} {Q : RT → AH → Prop} (hl : (gX g).2.1 ≤ 2048) (hi : i + 3 < (gX g).2.1) (hT : TR g α ν X h) (hI : INV k ν X) (hk : k ≤ 512) (kk : ∀ α' ν' X' h', FIX α α' → TR g α' ν' X' h' → INV (k + 1) ν' X' → Ev g M_L_law 2048 3533 (lsL g α (i : Int)) [] h' mc ms Q) : Ev g M_L_law 2048 1898 (lsL g α (i : Int)) [] h (28 + mc) (287 + ms) Q := by
  obtain ⟨p1, r1, e1⟩ := scr_J ((gX g).2.2 (i + 1))
  obtain ⟨p2, r2, e2⟩ := scr_J ((gX g).2.2 (i + 2))
  obtain ⟨p3, r3, e3⟩ := scr_J ((gX g).2.2 (i + 3))
  obtain ⟨r, mc1, ms1, P, hr, hm1, hm2, hw, hp⟩ := pr_attempts hT hI r1 r2
  have hr31 : R31 r := ⟨by omega, by omega⟩
  refine ev_mono (mc := mc1 + mc) (ms := ms1 + ms) (by omega) (by omega) ?_
  refine ev_ald1 1899 dL_law_1898 rfl ?_
  refine ev_ald0 1900 dL_law_1899 rfl ?_
  refine ev_ild5 1902 dL_law_1900 rfl ?_
  refine tj_iconst 1903 dL_law_1902 rfl ?_
  refine tj_iadd 1904 dL_law_1903 rfl ?_
  refine lq_scr (i + 1) 1905 (by omega) (by omega) hl e1 dL_law_1904 rfl ?_
  refine ev_ald0 1906 dL_law_1905 rfl ?_
  refine ev_ild5 1908 dL_law_1906 rfl ?_
  refine tj_iconst 1909 dL_law_1908 rfl ?_
  refine tj_iadd 1910 dL_law_1909 rfl ?_
  refine lq_scr (i + 2) 1911 (by omega) (by omega) hl e2 dL_law_1910 rfl ?_
  refine ev_ald3 1912 dL_law_1911 rfl ?_
  refine lh_S (As := [.ref (α 0 0), .int (J p1), .int (J p2), .ref (α 90 0)]) 1915 dL_law_1912 lh_271 hw (by decide) rfl rfl (Nat.le_of_ble_eq_true rfl) rfl (fun h α' ν' X1 hT hP => ?_)
  obtain ⟨hf, z2, dm, hz2, htz, hdm, hm⟩ := hp _ _ _ _ hT hP
  rw [hf.2.1] at hm
  have hb := tr40 hT
  rw [hf.2.1] at hb
  refine ev_ist6 1917 dL_law_1915 rfl (by decide) rfl ?_
  refine ev_ald2 1918 dL_law_1917 rfl ?_
  refine ev_ald0 1919 dL_law_1918 rfl ?_
  refine ev_ild5 1921 dL_law_1919 rfl ?_
  refine tj_iconst 1922 dL_law_1921 rfl ?_
  refine tj_iadd 1923 dL_law_1922 rfl ?_
  refine lq_scr (i + 1) 1924 (by omega) (by omega) hl e1 dL_law_1923 rfl ?_
  refine ev_ald0 1925 dL_law_1924 rfl ?_
  refine ev_ild5 1927 dL_law_1925 rfl ?_
  refine tj_iconst 1928 dL_law_1927 rfl ?_
  refine tj_iadd 1929 dL_law_1928 rfl ?_
  refine lq_scr (i + 2) 1930 (by omega) (by omega) hl e2 dL_law_1929 rfl ?_
  refine tm_V2 1933 14 dL_law_1930 lkv_L_273 hb rfl rfl (by omega) (Nat.le_of_ble_eq_true rfl) hm (fun h X2 hT hq => ?_)
  obtain ⟨q1, q2, hI2⟩ := hq
  have hb := tr40 hT
  have hth := c_X12_thrown hT
  rw [hf.2.1] at hb
  rw [hf.2.1, q1] at hth
  refine ev_ist7 1935 dL_law_1933 rfl (by decide) rfl ?_
  refine ev_ald2 1936 dL_law_1935 rfl ?_
  refine tc_V0 1939 14 dL_law_1936 lkv_L_188 hb rfl rfl (by decide) (Nat.le_of_ble_eq_true rfl) hth ?_
  refine ev_ild6 1941 dL_law_1939 rfl ?_
  refine tj_icmp_eq 1946 1944 dL_law_1941 (by decide) rfl hr31 hr31 (fun _ => ?_) (fun c => absurd rfl c)
  refine ev_ild6 1948 dL_law_1946 rfl ?_
  refine tj_if_ne 1963 1951 dL_law_1948 (by decide) rfl hr31 (fun c0 => ?_) (fun c0 => ?_)
  · skip
    refine ev_goto 3533 dL_law_1963 (by decide) ?_
    exact ev_locals lsL_le (kk _ _ _ _ hf hT hI2)
  · skip
    refine ev_ald3 1952 dL_law_1951 rfl ?_
    refine tj_iconst 1953 dL_law_1952 rfl ?_
    refine lq_lald 1954 hT hf.2.2.1 rfl (q2 c0) dL_law_1953 rfl ?_
    refine ev_ild7 1956 dL_law_1954 rfl ?_
    refine ev_i2l 1957 dL_law_1956 rfl ?_
    rw [J_i2l _ hz2]
    refine ev_lcmp 1958 dL_law_1957 rfl ?_
    rw [lcmp_self]
    refine tj_if_eq 1963 1961 dL_law_1958 (by decide) rfl R31_0 (fun _ => ?_) (fun c => absurd rfl c)
    refine ev_goto 3533 dL_law_1963 (by decide) ?_
    exact ev_locals lsL_le (kk _ _ _ _ hf hT hI2)
set_option maxRecDepth 100000 in
set_option maxHeartbeats 4000000 in
theorem sg_earnedCredits {g : Gt} {α : AL} {ν : Nat → Nat → Bool} {X : XM} {h : AH} {k : Int} {i mc ms : Nat} {Q : RT → AH → Prop} (hl : (gX g).2.1 ≤ 2048) (hi : i + 3 < (gX g).2.1) (hT : TR g α ν X h) (hI : INV k ν X) (hk : k ≤ 512) (kk : ∀ α' ν' X' h', FIX α α' → TR g α' ν' X' h' → INV (k + 1) ν' X' → Ev g M_L_law 2048 3533 (lsL g α (i : Int)) [] h' mc ms Q) : Ev g M_L_law 2048 1966 (lsL g α (i : Int)) [] h (28 + mc) (287 + ms) Q := by
  obtain ⟨p1, r1, e1⟩ := scr_J ((gX g).2.2 (i + 1))
  obtain ⟨p2, r2, e2⟩ := scr_J ((gX g).2.2 (i + 2))
  obtain ⟨p3, r3, e3⟩ := scr_J ((gX g).2.2 (i + 3))
  obtain ⟨r, mc1, ms1, P, hr, hm1, hm2, hw, hp⟩ := pr_earnedCredits hT hI r1
  have hr31 : R31 r := ⟨by omega, by omega⟩
  refine ev_mono (mc := mc1 + mc) (ms := ms1 + ms) (by omega) (by omega) ?_
  refine ev_ald1 1967 dL_law_1966 rfl ?_
  refine ev_ald0 1968 dL_law_1967 rfl ?_
  refine ev_ild5 1970 dL_law_1968 rfl ?_
  refine tj_iconst 1971 dL_law_1970 rfl ?_
  refine tj_iadd 1972 dL_law_1971 rfl ?_
  refine lq_scr (i + 1) 1973 (by omega) (by omega) hl e1 dL_law_1972 rfl ?_
  refine ev_ald3 1974 dL_law_1973 rfl ?_
  refine lh_S (As := [.ref (α 0 0), .int (J p1), .ref (α 90 0)]) 1977 dL_law_1974 lh_274 hw (by decide) rfl rfl (Nat.le_of_ble_eq_true rfl) rfl (fun h α' ν' X1 hT hP => ?_)
  obtain ⟨hf, z2, dm, hz2, htz, hdm, hm⟩ := hp _ _ _ _ hT hP
  rw [hf.2.1] at hm
  have hb := tr40 hT
  rw [hf.2.1] at hb
  refine ev_ist6 1979 dL_law_1977 rfl (by decide) rfl ?_
  refine ev_ald2 1980 dL_law_1979 rfl ?_
  refine ev_ald0 1981 dL_law_1980 rfl ?_
  refine ev_ild5 1983 dL_law_1981 rfl ?_
  refine tj_iconst 1984 dL_law_1983 rfl ?_
  refine tj_iadd 1985 dL_law_1984 rfl ?_
  refine lq_scr (i + 1) 1986 (by omega) (by omega) hl e1 dL_law_1985 rfl ?_
  refine tm_V1 1989 14 dL_law_1986 lkv_L_276 hb rfl rfl (by omega) (Nat.le_of_ble_eq_true rfl) hm (fun h X2 hT hq => ?_)
  obtain ⟨q1, q2, hI2⟩ := hq
  have hb := tr40 hT
  have hth := c_X12_thrown hT
  rw [hf.2.1] at hb
  rw [hf.2.1, q1] at hth
  refine ev_ist7 1991 dL_law_1989 rfl (by decide) rfl ?_
  refine ev_ald2 1992 dL_law_1991 rfl ?_
  refine tc_V0 1995 14 dL_law_1992 lkv_L_188 hb rfl rfl (by decide) (Nat.le_of_ble_eq_true rfl) hth ?_
  refine ev_ild6 1997 dL_law_1995 rfl ?_
  refine tj_icmp_eq 2002 2000 dL_law_1997 (by decide) rfl hr31 hr31 (fun _ => ?_) (fun c => absurd rfl c)
  refine ev_ild6 2004 dL_law_2002 rfl ?_
  refine tj_if_ne 2019 2007 dL_law_2004 (by decide) rfl hr31 (fun c0 => ?_) (fun c0 => ?_)
  · skip
    refine ev_goto 3533 dL_law_2019 (by decide) ?_
    exact ev_locals lsL_le (kk _ _ _ _ hf hT hI2)
  · skip
    refine ev_ald3 2008 dL_law_2007 rfl ?_
    refine tj_iconst 2009 dL_law_2008 rfl ?_
    refine lq_lald 2010 hT hf.2.2.1 rfl (q2 c0) dL_law_2009 rfl ?_
    refine ev_ild7 2012 dL_law_2010 rfl ?_
    refine ev_i2l 2013 dL_law_2012 rfl ?_
    rw [J_i2l _ hz2]
    refine ev_lcmp 2014 dL_law_2013 rfl ?_
    rw [lcmp_self]
    refine tj_if_eq 2019 2017 dL_law_2014 (by decide) rfl R31_0 (fun _ => ?_) (fun c => absurd rfl c)
    refine ev_goto 3533 dL_law_2019 (by decide) ?_
    exact ev_locals lsL_le (kk _ _ _ _ hf hT hI2)
set_option maxRecDepth 100000 in
set_option maxHeartbeats 4000000 in
theorem sg_load {g : Gt} {α : AL} {ν : Nat → Nat → Bool} {X : XM} {h : AH} {k : Int} {i mc ms : Nat} {Q : RT → AH → Prop} (hl : (gX g).2.1 ≤ 2048) (hi : i + 3 < (gX g).2.1) (hT : TR g α ν X h) (hI : INV k ν X) (hk : k ≤ 512) (kk : ∀ α' ν' X' h', FIX α α' → TR g α' ν' X' h' → INV (k + 1) ν' X' → Ev g M_L_law 2048 3533 (lsL g α (i : Int)) [] h' mc ms Q) : Ev g M_L_law 2048 2113 (lsL g α (i : Int)) [] h (28 + mc) (287 + ms) Q := by
  obtain ⟨p1, r1, e1⟩ := scr_J ((gX g).2.2 (i + 1))
  obtain ⟨p2, r2, e2⟩ := scr_J ((gX g).2.2 (i + 2))
  obtain ⟨p3, r3, e3⟩ := scr_J ((gX g).2.2 (i + 3))
  obtain ⟨r, mc1, ms1, P, hr, hm1, hm2, hw, hp⟩ := pr_load hT hI r1
  have hr31 : R31 r := ⟨by omega, by omega⟩
  refine ev_mono (mc := mc1 + mc) (ms := ms1 + ms) (by omega) (by omega) ?_
  refine ev_ald1 2114 dL_law_2113 rfl ?_
  refine ev_ald0 2115 dL_law_2114 rfl ?_
  refine ev_ild5 2117 dL_law_2115 rfl ?_
  refine tj_iconst 2118 dL_law_2117 rfl ?_
  refine tj_iadd 2119 dL_law_2118 rfl ?_
  refine lq_scr (i + 1) 2120 (by omega) (by omega) hl e1 dL_law_2119 rfl ?_
  refine ev_ald3 2121 dL_law_2120 rfl ?_
  refine lh_S (As := [.ref (α 0 0), .int (J p1), .ref (α 90 0)]) 2124 dL_law_2121 lh_286 hw (by decide) rfl rfl (Nat.le_of_ble_eq_true rfl) rfl (fun h α' ν' X1 hT hP => ?_)
  obtain ⟨hf, z2, dm, hz2, htz, hdm, hm⟩ := hp _ _ _ _ hT hP
  rw [hf.2.1] at hm
  have hb := tr40 hT
  rw [hf.2.1] at hb
  refine ev_ist6 2126 dL_law_2124 rfl (by decide) rfl ?_
  refine ev_ald2 2127 dL_law_2126 rfl ?_
  refine ev_ald0 2128 dL_law_2127 rfl ?_
  refine ev_ild5 2130 dL_law_2128 rfl ?_
  refine tj_iconst 2131 dL_law_2130 rfl ?_
  refine tj_iadd 2132 dL_law_2131 rfl ?_
  refine lq_scr (i + 1) 2133 (by omega) (by omega) hl e1 dL_law_2132 rfl ?_
  refine tm_V1 2136 14 dL_law_2133 lkv_L_288 hb rfl rfl (by omega) (Nat.le_of_ble_eq_true rfl) hm (fun h X2 hT hq => ?_)
  obtain ⟨q1, q2, hI2⟩ := hq
  have hb := tr40 hT
  have hth := c_X12_thrown hT
  rw [hf.2.1] at hb
  rw [hf.2.1, q1] at hth
  refine ev_ist7 2138 dL_law_2136 rfl (by decide) rfl ?_
  refine ev_ald2 2139 dL_law_2138 rfl ?_
  refine tc_V0 2142 14 dL_law_2139 lkv_L_188 hb rfl rfl (by decide) (Nat.le_of_ble_eq_true rfl) hth ?_
  refine ev_ild6 2144 dL_law_2142 rfl ?_
  refine tj_icmp_eq 2149 2147 dL_law_2144 (by decide) rfl hr31 hr31 (fun _ => ?_) (fun c => absurd rfl c)
  refine ev_ild6 2151 dL_law_2149 rfl ?_
  refine tj_if_ne 2166 2154 dL_law_2151 (by decide) rfl hr31 (fun c0 => ?_) (fun c0 => ?_)
  · skip
    refine ev_goto 3533 dL_law_2166 (by decide) ?_
    exact ev_locals lsL_le (kk _ _ _ _ hf hT hI2)
  · skip
    refine ev_ald3 2155 dL_law_2154 rfl ?_
    refine tj_iconst 2156 dL_law_2155 rfl ?_
    refine lq_lald 2157 hT hf.2.2.1 rfl (q2 c0) dL_law_2156 rfl ?_
    refine ev_ild7 2159 dL_law_2157 rfl ?_
    refine ev_i2l 2160 dL_law_2159 rfl ?_
    rw [J_i2l _ hz2]
    refine ev_lcmp 2161 dL_law_2160 rfl ?_
    rw [lcmp_self]
    refine tj_if_eq 2166 2164 dL_law_2161 (by decide) rfl R31_0 (fun _ => ?_) (fun c => absurd rfl c)
    refine ev_goto 3533 dL_law_2166 (by decide) ?_
    exact ev_locals lsL_le (kk _ _ _ _ hf hT hI2)
set_option maxRecDepth 100000 in
set_option maxHeartbeats 4000000 in
theorem sg_isEnrolled {g : Gt} {α : AL} {ν : Nat → Nat → Bool} {X : XM} {h : AH} {k : Int} {i mc ms : Nat} {Q : RT → AH → Prop} (hl : (gX g).2.1 ≤ 2048) (hi : i + 3 < (gX g).2.1) (hT : TR g α ν X h) (hI : INV k ν X) (hk : k ≤ 512) (kk : ∀ α' ν' X' h', FIX α α' → TR g α' ν' X' h' → INV (k + 1) ν' X' → Ev g M_L_law 2048 3533 (lsL g α (i : Int)) [] h' mc ms Q) : Ev g M_L_law 2048 2169 (lsL g α (i : Int)) [] h (28 + mc) (287 + ms) Q := by
  obtain ⟨p1, r1, e1⟩ := scr_J ((gX g).2.2 (i + 1))
  obtain ⟨p2, r2, e2⟩ := scr_J ((gX g).2.2 (i + 2))
  obtain ⟨p3, r3, e3⟩ := scr_J ((gX g).2.2 (i + 3))
  obtain ⟨r, mc1, ms1, P, hr, hm1, hm2, hw, hp⟩ := pr_isEnrolled hT hI r1 r2
  have hr31 : R31 r := ⟨by omega, by omega⟩
  refine ev_mono (mc := mc1 + mc) (ms := ms1 + ms) (by omega) (by omega) ?_
  refine ev_ald1 2170 dL_law_2169 rfl ?_
  refine ev_ald0 2171 dL_law_2170 rfl ?_
  refine ev_ild5 2173 dL_law_2171 rfl ?_
  refine tj_iconst 2174 dL_law_2173 rfl ?_
  refine tj_iadd 2175 dL_law_2174 rfl ?_
  refine lq_scr (i + 1) 2176 (by omega) (by omega) hl e1 dL_law_2175 rfl ?_
  refine ev_ald0 2177 dL_law_2176 rfl ?_
  refine ev_ild5 2179 dL_law_2177 rfl ?_
  refine tj_iconst 2180 dL_law_2179 rfl ?_
  refine tj_iadd 2181 dL_law_2180 rfl ?_
  refine lq_scr (i + 2) 2182 (by omega) (by omega) hl e2 dL_law_2181 rfl ?_
  refine ev_ald3 2183 dL_law_2182 rfl ?_
  refine lh_S (As := [.ref (α 0 0), .int (J p1), .int (J p2), .ref (α 90 0)]) 2186 dL_law_2183 lh_289 hw (by decide) rfl rfl (Nat.le_of_ble_eq_true rfl) rfl (fun h α' ν' X1 hT hP => ?_)
  obtain ⟨hf, z2, dm, hz2, htz, hdm, hm⟩ := hp _ _ _ _ hT hP
  rw [hf.2.1] at hm
  have hb := tr40 hT
  rw [hf.2.1] at hb
  refine ev_ist6 2188 dL_law_2186 rfl (by decide) rfl ?_
  refine ev_ald2 2189 dL_law_2188 rfl ?_
  refine ev_ald0 2190 dL_law_2189 rfl ?_
  refine ev_ild5 2192 dL_law_2190 rfl ?_
  refine tj_iconst 2193 dL_law_2192 rfl ?_
  refine tj_iadd 2194 dL_law_2193 rfl ?_
  refine lq_scr (i + 1) 2195 (by omega) (by omega) hl e1 dL_law_2194 rfl ?_
  refine ev_ald0 2196 dL_law_2195 rfl ?_
  refine ev_ild5 2198 dL_law_2196 rfl ?_
  refine tj_iconst 2199 dL_law_2198 rfl ?_
  refine tj_iadd 2200 dL_law_2199 rfl ?_
  refine lq_scr (i + 2) 2201 (by omega) (by omega) hl e2 dL_law_2200 rfl ?_
  refine tm_V2 2204 14 dL_law_2201 lkv_L_291 hb rfl rfl (by omega) (Nat.le_of_ble_eq_true rfl) hm (fun h X2 hT hq => ?_)
  obtain ⟨q1, q2, hI2⟩ := hq
  have hb := tr40 hT
  have hth := c_X12_thrown hT
  rw [hf.2.1] at hb
  rw [hf.2.1, q1] at hth
  refine ev_ist7 2206 dL_law_2204 rfl (by decide) rfl ?_
  refine ev_ald2 2207 dL_law_2206 rfl ?_
  refine tc_V0 2210 14 dL_law_2207 lkv_L_188 hb rfl rfl (by decide) (Nat.le_of_ble_eq_true rfl) hth ?_
  refine ev_ild6 2212 dL_law_2210 rfl ?_
  refine tj_icmp_eq 2217 2215 dL_law_2212 (by decide) rfl hr31 hr31 (fun _ => ?_) (fun c => absurd rfl c)
  refine ev_ild6 2219 dL_law_2217 rfl ?_
  refine tj_if_ne 2241 2222 dL_law_2219 (by decide) rfl hr31 (fun c0 => ?_) (fun c0 => ?_)
  · skip
    refine ev_goto 3533 dL_law_2241 (by decide) ?_
    exact ev_locals lsL_le (kk _ _ _ _ hf hT hI2)
  · skip
    refine ev_ald3 2223 dL_law_2222 rfl ?_
    refine tj_iconst 2224 dL_law_2223 rfl ?_
    refine lq_lald 2225 hT hf.2.2.1 rfl (q2 c0) dL_law_2224 rfl ?_
    obtain ⟨b, rfl⟩ := htz c0
    refine ev_ild7 2227 dL_law_2225 rfl ?_
    cases b with
    | false =>
      refine tb_if_eq 2234 2230 dL_law_2227 (by decide) rfl (fun c1 => ?_) (fun c1 => ?_)
      · skip
        refine ev_lconst (Int64.ofInt (bi false)) 2235 dL_law_2234 (by decide) rfl ?_
        refine ev_lcmp 2236 dL_law_2235 rfl ?_
        rw [lcmp_self]
        refine tj_if_eq 2241 2239 dL_law_2236 (by decide) rfl R31_0 (fun _ => ?_) (fun c => absurd rfl c)
        refine ev_goto 3533 dL_law_2241 (by decide) ?_
        exact ev_locals lsL_le (kk _ _ _ _ hf hT hI2)
      · cases c1
    | true =>
      refine tb_if_eq 2234 2230 dL_law_2227 (by decide) rfl (fun c1 => ?_) (fun c1 => ?_)
      · cases c1
      · skip
        refine ev_lconst (Int64.ofInt (bi true)) 2231 dL_law_2230 (by decide) rfl ?_
        refine ev_goto 2235 dL_law_2231 (by decide) ?_
        refine ev_lcmp 2236 dL_law_2235 rfl ?_
        rw [lcmp_self]
        refine tj_if_eq 2241 2239 dL_law_2236 (by decide) rfl R31_0 (fun _ => ?_) (fun c => absurd rfl c)
        refine ev_goto 3533 dL_law_2241 (by decide) ?_
        exact ev_locals lsL_le (kk _ _ _ _ hf hT hI2)
set_option maxRecDepth 100000 in
set_option maxHeartbeats 4000000 in
theorem sg_enrolled {g : Gt} {α : AL} {ν : Nat → Nat → Bool} {X : XM} {h : AH} {k : Int} {i mc ms : Nat} {Q : RT → AH → Prop} (hl : (gX g).2.1 ≤ 2048) (hi : i + 3 < (gX g).2.1) (hT : TR g α ν X h) (hI : INV k ν X) (hk : k ≤ 512) (kk : ∀ α' ν' X' h', FIX α α' → TR g α' ν' X' h' → INV (k + 1) ν' X' → Ev g M_L_law 2048 3533 (lsL g α (i : Int)) [] h' mc ms Q) : Ev g M_L_law 2048 2244 (lsL g α (i : Int)) [] h (28 + mc) (287 + ms) Q := by
  obtain ⟨p1, r1, e1⟩ := scr_J ((gX g).2.2 (i + 1))
  obtain ⟨p2, r2, e2⟩ := scr_J ((gX g).2.2 (i + 2))
  obtain ⟨p3, r3, e3⟩ := scr_J ((gX g).2.2 (i + 3))
  obtain ⟨r, mc1, ms1, P, hr, hm1, hm2, hw, hp⟩ := pr_enrolled hT hI r1
  have hr31 : R31 r := ⟨by omega, by omega⟩
  refine ev_mono (mc := mc1 + mc) (ms := ms1 + ms) (by omega) (by omega) ?_
  refine ev_ald1 2245 dL_law_2244 rfl ?_
  refine ev_ald0 2246 dL_law_2245 rfl ?_
  refine ev_ild5 2248 dL_law_2246 rfl ?_
  refine tj_iconst 2249 dL_law_2248 rfl ?_
  refine tj_iadd 2250 dL_law_2249 rfl ?_
  refine lq_scr (i + 1) 2251 (by omega) (by omega) hl e1 dL_law_2250 rfl ?_
  refine ev_ald3 2252 dL_law_2251 rfl ?_
  refine lh_S (As := [.ref (α 0 0), .int (J p1), .ref (α 90 0)]) 2255 dL_law_2252 lh_292 hw (by decide) rfl rfl (Nat.le_of_ble_eq_true rfl) rfl (fun h α' ν' X1 hT hP => ?_)
  obtain ⟨hf, z2, dm, hz2, htz, hdm, hm⟩ := hp _ _ _ _ hT hP
  rw [hf.2.1] at hm
  have hb := tr40 hT
  rw [hf.2.1] at hb
  refine ev_ist6 2257 dL_law_2255 rfl (by decide) rfl ?_
  refine ev_ald2 2258 dL_law_2257 rfl ?_
  refine ev_ald0 2259 dL_law_2258 rfl ?_
  refine ev_ild5 2261 dL_law_2259 rfl ?_
  refine tj_iconst 2262 dL_law_2261 rfl ?_
  refine tj_iadd 2263 dL_law_2262 rfl ?_
  refine lq_scr (i + 1) 2264 (by omega) (by omega) hl e1 dL_law_2263 rfl ?_
  refine tm_V1 2267 14 dL_law_2264 lkv_L_294 hb rfl rfl (by omega) (Nat.le_of_ble_eq_true rfl) hm (fun h X2 hT hq => ?_)
  obtain ⟨q1, q2, hI2⟩ := hq
  have hb := tr40 hT
  have hth := c_X12_thrown hT
  rw [hf.2.1] at hb
  rw [hf.2.1, q1] at hth
  refine ev_ist7 2269 dL_law_2267 rfl (by decide) rfl ?_
  refine ev_ald2 2270 dL_law_2269 rfl ?_
  refine tc_V0 2273 14 dL_law_2270 lkv_L_188 hb rfl rfl (by decide) (Nat.le_of_ble_eq_true rfl) hth ?_
  refine ev_ild6 2275 dL_law_2273 rfl ?_
  refine tj_icmp_eq 2280 2278 dL_law_2275 (by decide) rfl hr31 hr31 (fun _ => ?_) (fun c => absurd rfl c)
  refine ev_ild6 2282 dL_law_2280 rfl ?_
  refine tj_if_ne 2297 2285 dL_law_2282 (by decide) rfl hr31 (fun c0 => ?_) (fun c0 => ?_)
  · skip
    refine ev_goto 3533 dL_law_2297 (by decide) ?_
    exact ev_locals lsL_le (kk _ _ _ _ hf hT hI2)
  · skip
    refine ev_ald3 2286 dL_law_2285 rfl ?_
    refine tj_iconst 2287 dL_law_2286 rfl ?_
    refine lq_lald 2288 hT hf.2.2.1 rfl (q2 c0) dL_law_2287 rfl ?_
    refine ev_ild7 2290 dL_law_2288 rfl ?_
    refine ev_i2l 2291 dL_law_2290 rfl ?_
    rw [J_i2l _ hz2]
    refine ev_lcmp 2292 dL_law_2291 rfl ?_
    rw [lcmp_self]
    refine tj_if_eq 2297 2295 dL_law_2292 (by decide) rfl R31_0 (fun _ => ?_) (fun c => absurd rfl c)
    refine ev_goto 3533 dL_law_2297 (by decide) ?_
    exact ev_locals lsL_le (kk _ _ _ _ hf hT hI2)
set_option maxRecDepth 100000 in
set_option maxHeartbeats 4000000 in
theorem sg_waiting {g : Gt} {α : AL} {ν : Nat → Nat → Bool} {X : XM} {h : AH} {k : Int} {i mc ms : Nat} {Q : RT → AH → Prop} (hl : (gX g).2.1 ≤ 2048) (hi : i + 3 < (gX g).2.1) (hT : TR g α ν X h) (hI : INV k ν X) (hk : k ≤ 512) (kk : ∀ α' ν' X' h', FIX α α' → TR g α' ν' X' h' → INV (k + 1) ν' X' → Ev g M_L_law 2048 3533 (lsL g α (i : Int)) [] h' mc ms Q) : Ev g M_L_law 2048 2300 (lsL g α (i : Int)) [] h (28 + mc) (287 + ms) Q := by
  obtain ⟨p1, r1, e1⟩ := scr_J ((gX g).2.2 (i + 1))
  obtain ⟨p2, r2, e2⟩ := scr_J ((gX g).2.2 (i + 2))
  obtain ⟨p3, r3, e3⟩ := scr_J ((gX g).2.2 (i + 3))
  obtain ⟨r, mc1, ms1, P, hr, hm1, hm2, hw, hp⟩ := pr_waiting hT hI r1
  have hr31 : R31 r := ⟨by omega, by omega⟩
  refine ev_mono (mc := mc1 + mc) (ms := ms1 + ms) (by omega) (by omega) ?_
  refine ev_ald1 2301 dL_law_2300 rfl ?_
  refine ev_ald0 2302 dL_law_2301 rfl ?_
  refine ev_ild5 2304 dL_law_2302 rfl ?_
  refine tj_iconst 2305 dL_law_2304 rfl ?_
  refine tj_iadd 2306 dL_law_2305 rfl ?_
  refine lq_scr (i + 1) 2307 (by omega) (by omega) hl e1 dL_law_2306 rfl ?_
  refine ev_ald3 2308 dL_law_2307 rfl ?_
  refine lh_S (As := [.ref (α 0 0), .int (J p1), .ref (α 90 0)]) 2311 dL_law_2308 lh_295 hw (by decide) rfl rfl (Nat.le_of_ble_eq_true rfl) rfl (fun h α' ν' X1 hT hP => ?_)
  obtain ⟨hf, z2, dm, hz2, htz, hdm, hm⟩ := hp _ _ _ _ hT hP
  rw [hf.2.1] at hm
  have hb := tr40 hT
  rw [hf.2.1] at hb
  refine ev_ist6 2313 dL_law_2311 rfl (by decide) rfl ?_
  refine ev_ald2 2314 dL_law_2313 rfl ?_
  refine ev_ald0 2315 dL_law_2314 rfl ?_
  refine ev_ild5 2317 dL_law_2315 rfl ?_
  refine tj_iconst 2318 dL_law_2317 rfl ?_
  refine tj_iadd 2319 dL_law_2318 rfl ?_
  refine lq_scr (i + 1) 2320 (by omega) (by omega) hl e1 dL_law_2319 rfl ?_
  refine tm_V1 2323 14 dL_law_2320 lkv_L_297 hb rfl rfl (by omega) (Nat.le_of_ble_eq_true rfl) hm (fun h X2 hT hq => ?_)
  obtain ⟨q1, q2, hI2⟩ := hq
  have hb := tr40 hT
  have hth := c_X12_thrown hT
  rw [hf.2.1] at hb
  rw [hf.2.1, q1] at hth
  refine ev_ist7 2325 dL_law_2323 rfl (by decide) rfl ?_
  refine ev_ald2 2326 dL_law_2325 rfl ?_
  refine tc_V0 2329 14 dL_law_2326 lkv_L_188 hb rfl rfl (by decide) (Nat.le_of_ble_eq_true rfl) hth ?_
  refine ev_ild6 2331 dL_law_2329 rfl ?_
  refine tj_icmp_eq 2336 2334 dL_law_2331 (by decide) rfl hr31 hr31 (fun _ => ?_) (fun c => absurd rfl c)
  refine ev_ild6 2338 dL_law_2336 rfl ?_
  refine tj_if_ne 2353 2341 dL_law_2338 (by decide) rfl hr31 (fun c0 => ?_) (fun c0 => ?_)
  · skip
    refine ev_goto 3533 dL_law_2353 (by decide) ?_
    exact ev_locals lsL_le (kk _ _ _ _ hf hT hI2)
  · skip
    refine ev_ald3 2342 dL_law_2341 rfl ?_
    refine tj_iconst 2343 dL_law_2342 rfl ?_
    refine lq_lald 2344 hT hf.2.2.1 rfl (q2 c0) dL_law_2343 rfl ?_
    refine ev_ild7 2346 dL_law_2344 rfl ?_
    refine ev_i2l 2347 dL_law_2346 rfl ?_
    rw [J_i2l _ hz2]
    refine ev_lcmp 2348 dL_law_2347 rfl ?_
    rw [lcmp_self]
    refine tj_if_eq 2353 2351 dL_law_2348 (by decide) rfl R31_0 (fun _ => ?_) (fun c => absurd rfl c)
    refine ev_goto 3533 dL_law_2353 (by decide) ?_
    exact ev_locals lsL_le (kk _ _ _ _ hf hT hI2)
set_option maxRecDepth 100000 in
set_option maxHeartbeats 4000000 in
theorem sg_placeOf {g : Gt} {α : AL} {ν : Nat → Nat → Bool} {X : XM} {h : AH} {k : Int} {i mc ms : Nat} {Q : RT → AH → Prop} (hl : (gX g).2.1 ≤ 2048) (hi : i + 3 < (gX g).2.1) (hT : TR g α ν X h) (hI : INV k ν X) (hk : k ≤ 512) (kk : ∀ α' ν' X' h', FIX α α' → TR g α' ν' X' h' → INV (k + 1) ν' X' → Ev g M_L_law 2048 3533 (lsL g α (i : Int)) [] h' mc ms Q) : Ev g M_L_law 2048 2356 (lsL g α (i : Int)) [] h (28 + mc) (287 + ms) Q := by
  obtain ⟨p1, r1, e1⟩ := scr_J ((gX g).2.2 (i + 1))
  obtain ⟨p2, r2, e2⟩ := scr_J ((gX g).2.2 (i + 2))
  obtain ⟨p3, r3, e3⟩ := scr_J ((gX g).2.2 (i + 3))
  obtain ⟨r, mc1, ms1, P, hr, hm1, hm2, hw, hp⟩ := pr_placeOf hT hI r1 r2
  have hr31 : R31 r := ⟨by omega, by omega⟩
  refine ev_mono (mc := mc1 + mc) (ms := ms1 + ms) (by omega) (by omega) ?_
  refine ev_ald1 2357 dL_law_2356 rfl ?_
  refine ev_ald0 2358 dL_law_2357 rfl ?_
  refine ev_ild5 2360 dL_law_2358 rfl ?_
  refine tj_iconst 2361 dL_law_2360 rfl ?_
  refine tj_iadd 2362 dL_law_2361 rfl ?_
  refine lq_scr (i + 1) 2363 (by omega) (by omega) hl e1 dL_law_2362 rfl ?_
  refine ev_ald0 2364 dL_law_2363 rfl ?_
  refine ev_ild5 2366 dL_law_2364 rfl ?_
  refine tj_iconst 2367 dL_law_2366 rfl ?_
  refine tj_iadd 2368 dL_law_2367 rfl ?_
  refine lq_scr (i + 2) 2369 (by omega) (by omega) hl e2 dL_law_2368 rfl ?_
  refine ev_ald3 2370 dL_law_2369 rfl ?_
  refine lh_S (As := [.ref (α 0 0), .int (J p1), .int (J p2), .ref (α 90 0)]) 2373 dL_law_2370 lh_298 hw (by decide) rfl rfl (Nat.le_of_ble_eq_true rfl) rfl (fun h α' ν' X1 hT hP => ?_)
  obtain ⟨hf, z2, dm, hz2, htz, hdm, hm⟩ := hp _ _ _ _ hT hP
  rw [hf.2.1] at hm
  have hb := tr40 hT
  rw [hf.2.1] at hb
  refine ev_ist6 2375 dL_law_2373 rfl (by decide) rfl ?_
  refine ev_ald2 2376 dL_law_2375 rfl ?_
  refine ev_ald0 2377 dL_law_2376 rfl ?_
  refine ev_ild5 2379 dL_law_2377 rfl ?_
  refine tj_iconst 2380 dL_law_2379 rfl ?_
  refine tj_iadd 2381 dL_law_2380 rfl ?_
  refine lq_scr (i + 1) 2382 (by omega) (by omega) hl e1 dL_law_2381 rfl ?_
  refine ev_ald0 2383 dL_law_2382 rfl ?_
  refine ev_ild5 2385 dL_law_2383 rfl ?_
  refine tj_iconst 2386 dL_law_2385 rfl ?_
  refine tj_iadd 2387 dL_law_2386 rfl ?_
  refine lq_scr (i + 2) 2388 (by omega) (by omega) hl e2 dL_law_2387 rfl ?_
  refine tm_V2 2391 14 dL_law_2388 lkv_L_300 hb rfl rfl (by omega) (Nat.le_of_ble_eq_true rfl) hm (fun h X2 hT hq => ?_)
  obtain ⟨q1, q2, hI2⟩ := hq
  have hb := tr40 hT
  have hth := c_X12_thrown hT
  rw [hf.2.1] at hb
  rw [hf.2.1, q1] at hth
  refine ev_ist7 2393 dL_law_2391 rfl (by decide) rfl ?_
  refine ev_ald2 2394 dL_law_2393 rfl ?_
  refine tc_V0 2397 14 dL_law_2394 lkv_L_188 hb rfl rfl (by decide) (Nat.le_of_ble_eq_true rfl) hth ?_
  refine ev_ild6 2399 dL_law_2397 rfl ?_
  refine tj_icmp_eq 2404 2402 dL_law_2399 (by decide) rfl hr31 hr31 (fun _ => ?_) (fun c => absurd rfl c)
  refine ev_ild6 2406 dL_law_2404 rfl ?_
  refine tj_if_ne 2421 2409 dL_law_2406 (by decide) rfl hr31 (fun c0 => ?_) (fun c0 => ?_)
  · skip
    refine ev_goto 3533 dL_law_2421 (by decide) ?_
    exact ev_locals lsL_le (kk _ _ _ _ hf hT hI2)
  · skip
    refine ev_ald3 2410 dL_law_2409 rfl ?_
    refine tj_iconst 2411 dL_law_2410 rfl ?_
    refine lq_lald 2412 hT hf.2.2.1 rfl (q2 c0) dL_law_2411 rfl ?_
    refine ev_ild7 2414 dL_law_2412 rfl ?_
    refine ev_i2l 2415 dL_law_2414 rfl ?_
    rw [J_i2l _ hz2]
    refine ev_lcmp 2416 dL_law_2415 rfl ?_
    rw [lcmp_self]
    refine tj_if_eq 2421 2419 dL_law_2416 (by decide) rfl R31_0 (fun _ => ?_) (fun c => absurd rfl c)
    refine ev_goto 3533 dL_law_2421 (by decide) ?_
    exact ev_locals lsL_le (kk _ _ _ _ hf hT hI2)
set_option maxRecDepth 100000 in
set_option maxHeartbeats 4000000 in
theorem sg_freeSeats {g : Gt} {α : AL} {ν : Nat → Nat → Bool} {X : XM} {h : AH} {k : Int} {i mc ms : Nat} {Q : RT → AH → Prop} (hl : (gX g).2.1 ≤ 2048) (hi : i + 3 < (gX g).2.1) (hT : TR g α ν X h) (hI : INV k ν X) (hk : k ≤ 512) (kk : ∀ α' ν' X' h', FIX α α' → TR g α' ν' X' h' → INV (k + 1) ν' X' → Ev g M_L_law 2048 3533 (lsL g α (i : Int)) [] h' mc ms Q) : Ev g M_L_law 2048 2424 (lsL g α (i : Int)) [] h (28 + mc) (287 + ms) Q := by
  obtain ⟨p1, r1, e1⟩ := scr_J ((gX g).2.2 (i + 1))
  obtain ⟨p2, r2, e2⟩ := scr_J ((gX g).2.2 (i + 2))
  obtain ⟨p3, r3, e3⟩ := scr_J ((gX g).2.2 (i + 3))
  obtain ⟨r, mc1, ms1, P, hr, hm1, hm2, hw, hp⟩ := pr_freeSeats hT hI r1 r2
  have hr31 : R31 r := ⟨by omega, by omega⟩
  refine ev_mono (mc := mc1 + mc) (ms := ms1 + ms) (by omega) (by omega) ?_
  refine ev_ald1 2425 dL_law_2424 rfl ?_
  refine ev_ald0 2426 dL_law_2425 rfl ?_
  refine ev_ild5 2428 dL_law_2426 rfl ?_
  refine tj_iconst 2429 dL_law_2428 rfl ?_
  refine tj_iadd 2430 dL_law_2429 rfl ?_
  refine lq_scr (i + 1) 2431 (by omega) (by omega) hl e1 dL_law_2430 rfl ?_
  refine ev_ald0 2432 dL_law_2431 rfl ?_
  refine ev_ild5 2434 dL_law_2432 rfl ?_
  refine tj_iconst 2435 dL_law_2434 rfl ?_
  refine tj_iadd 2436 dL_law_2435 rfl ?_
  refine lq_scr (i + 2) 2437 (by omega) (by omega) hl e2 dL_law_2436 rfl ?_
  refine ev_ald3 2438 dL_law_2437 rfl ?_
  refine lh_S (As := [.ref (α 0 0), .int (J p1), .int (J p2), .ref (α 90 0)]) 2441 dL_law_2438 lh_301 hw (by decide) rfl rfl (Nat.le_of_ble_eq_true rfl) rfl (fun h α' ν' X1 hT hP => ?_)
  obtain ⟨hf, z2, dm, hz2, htz, hdm, hm⟩ := hp _ _ _ _ hT hP
  rw [hf.2.1] at hm
  have hb := tr40 hT
  rw [hf.2.1] at hb
  refine ev_ist6 2443 dL_law_2441 rfl (by decide) rfl ?_
  refine ev_ald2 2444 dL_law_2443 rfl ?_
  refine ev_ald0 2445 dL_law_2444 rfl ?_
  refine ev_ild5 2447 dL_law_2445 rfl ?_
  refine tj_iconst 2448 dL_law_2447 rfl ?_
  refine tj_iadd 2449 dL_law_2448 rfl ?_
  refine lq_scr (i + 1) 2450 (by omega) (by omega) hl e1 dL_law_2449 rfl ?_
  refine ev_ald0 2451 dL_law_2450 rfl ?_
  refine ev_ild5 2453 dL_law_2451 rfl ?_
  refine tj_iconst 2454 dL_law_2453 rfl ?_
  refine tj_iadd 2455 dL_law_2454 rfl ?_
  refine lq_scr (i + 2) 2456 (by omega) (by omega) hl e2 dL_law_2455 rfl ?_
  refine tm_V2 2459 14 dL_law_2456 lkv_L_303 hb rfl rfl (by omega) (Nat.le_of_ble_eq_true rfl) hm (fun h X2 hT hq => ?_)
  obtain ⟨q1, q2, hI2⟩ := hq
  have hb := tr40 hT
  have hth := c_X12_thrown hT
  rw [hf.2.1] at hb
  rw [hf.2.1, q1] at hth
  refine ev_ist7 2461 dL_law_2459 rfl (by decide) rfl ?_
  refine ev_ald2 2462 dL_law_2461 rfl ?_
  refine tc_V0 2465 14 dL_law_2462 lkv_L_188 hb rfl rfl (by decide) (Nat.le_of_ble_eq_true rfl) hth ?_
  refine ev_ild6 2467 dL_law_2465 rfl ?_
  refine tj_icmp_eq 2472 2470 dL_law_2467 (by decide) rfl hr31 hr31 (fun _ => ?_) (fun c => absurd rfl c)
  refine ev_ild6 2474 dL_law_2472 rfl ?_
  refine tj_if_ne 2489 2477 dL_law_2474 (by decide) rfl hr31 (fun c0 => ?_) (fun c0 => ?_)
  · skip
    refine ev_goto 3533 dL_law_2489 (by decide) ?_
    exact ev_locals lsL_le (kk _ _ _ _ hf hT hI2)
  · skip
    refine ev_ald3 2478 dL_law_2477 rfl ?_
    refine tj_iconst 2479 dL_law_2478 rfl ?_
    refine lq_lald 2480 hT hf.2.2.1 rfl (q2 c0) dL_law_2479 rfl ?_
    refine ev_ild7 2482 dL_law_2480 rfl ?_
    refine ev_i2l 2483 dL_law_2482 rfl ?_
    rw [J_i2l _ hz2]
    refine ev_lcmp 2484 dL_law_2483 rfl ?_
    rw [lcmp_self]
    refine tj_if_eq 2489 2487 dL_law_2484 (by decide) rfl R31_0 (fun _ => ?_) (fun c => absurd rfl c)
    refine ev_goto 3533 dL_law_2489 (by decide) ?_
    exact ev_locals lsL_le (kk _ _ _ _ hf hT hI2)
set_option maxRecDepth 100000 in
set_option maxHeartbeats 4000000 in
theorem sg_whyNot {g : Gt} {α : AL} {ν : Nat → Nat → Bool} {X : XM} {h : AH} {k : Int} {i mc ms : Nat} {Q : RT → AH → Prop} (hl : (gX g).2.1 ≤ 2048) (hi : i + 3 < (gX g).2.1) (hT : TR g α ν X h) (hI : INV k ν X) (hk : k ≤ 512) (kk : ∀ α' ν' X' h', FIX α α' → TR g α' ν' X' h' → INV (k + 1) ν' X' → Ev g M_L_law 2048 3533 (lsL g α (i : Int)) [] h' mc ms Q) : Ev g M_L_law 2048 2570 (lsL g α (i : Int)) [] h (28 + mc) (287 + ms) Q := by
  obtain ⟨p1, r1, e1⟩ := scr_J ((gX g).2.2 (i + 1))
  obtain ⟨p2, r2, e2⟩ := scr_J ((gX g).2.2 (i + 2))
  obtain ⟨p3, r3, e3⟩ := scr_J ((gX g).2.2 (i + 3))
  obtain ⟨r, mc1, ms1, P, hr, hm1, hm2, hw, hp⟩ := pr_whyNot hT hI r1 r2
  have hr31 : R31 r := ⟨by omega, by omega⟩
  refine ev_mono (mc := mc1 + mc) (ms := ms1 + ms) (by omega) (by omega) ?_
  refine ev_ald1 2571 dL_law_2570 rfl ?_
  refine ev_ald0 2572 dL_law_2571 rfl ?_
  refine ev_ild5 2574 dL_law_2572 rfl ?_
  refine tj_iconst 2575 dL_law_2574 rfl ?_
  refine tj_iadd 2576 dL_law_2575 rfl ?_
  refine lq_scr (i + 1) 2577 (by omega) (by omega) hl e1 dL_law_2576 rfl ?_
  refine ev_ald0 2578 dL_law_2577 rfl ?_
  refine ev_ild5 2580 dL_law_2578 rfl ?_
  refine tj_iconst 2581 dL_law_2580 rfl ?_
  refine tj_iadd 2582 dL_law_2581 rfl ?_
  refine lq_scr (i + 2) 2583 (by omega) (by omega) hl e2 dL_law_2582 rfl ?_
  refine ev_ald3 2584 dL_law_2583 rfl ?_
  refine lh_S (As := [.ref (α 0 0), .int (J p1), .int (J p2), .ref (α 90 0)]) 2587 dL_law_2584 lh_307 hw (by decide) rfl rfl (Nat.le_of_ble_eq_true rfl) rfl (fun h α' ν' X1 hT hP => ?_)
  obtain ⟨hf, z2, dm, hz2, htz, hdm, hm⟩ := hp _ _ _ _ hT hP
  rw [hf.2.1] at hm
  have hb := tr40 hT
  rw [hf.2.1] at hb
  refine ev_ist6 2589 dL_law_2587 rfl (by decide) rfl ?_
  refine ev_ald2 2590 dL_law_2589 rfl ?_
  refine ev_ald0 2591 dL_law_2590 rfl ?_
  refine ev_ild5 2593 dL_law_2591 rfl ?_
  refine tj_iconst 2594 dL_law_2593 rfl ?_
  refine tj_iadd 2595 dL_law_2594 rfl ?_
  refine lq_scr (i + 1) 2596 (by omega) (by omega) hl e1 dL_law_2595 rfl ?_
  refine ev_ald0 2597 dL_law_2596 rfl ?_
  refine ev_ild5 2599 dL_law_2597 rfl ?_
  refine tj_iconst 2600 dL_law_2599 rfl ?_
  refine tj_iadd 2601 dL_law_2600 rfl ?_
  refine lq_scr (i + 2) 2602 (by omega) (by omega) hl e2 dL_law_2601 rfl ?_
  refine tm_V2 2605 14 dL_law_2602 lkv_L_309 hb rfl rfl (by omega) (Nat.le_of_ble_eq_true rfl) hm (fun h X2 hT hq => ?_)
  obtain ⟨q1, q2, hI2⟩ := hq
  have hb := tr40 hT
  have hth := c_X12_thrown hT
  rw [hf.2.1] at hb
  rw [hf.2.1, q1] at hth
  refine ev_ist7 2607 dL_law_2605 rfl (by decide) rfl ?_
  refine ev_ald2 2608 dL_law_2607 rfl ?_
  refine tc_V0 2611 14 dL_law_2608 lkv_L_188 hb rfl rfl (by decide) (Nat.le_of_ble_eq_true rfl) hth ?_
  refine ev_ild6 2613 dL_law_2611 rfl ?_
  refine tj_icmp_eq 2618 2616 dL_law_2613 (by decide) rfl hr31 hr31 (fun _ => ?_) (fun c => absurd rfl c)
  refine ev_ild6 2620 dL_law_2618 rfl ?_
  refine tj_if_ne 2635 2623 dL_law_2620 (by decide) rfl hr31 (fun c0 => ?_) (fun c0 => ?_)
  · skip
    refine ev_goto 3533 dL_law_2635 (by decide) ?_
    exact ev_locals lsL_le (kk _ _ _ _ hf hT hI2)
  · skip
    refine ev_ald3 2624 dL_law_2623 rfl ?_
    refine tj_iconst 2625 dL_law_2624 rfl ?_
    refine lq_lald 2626 hT hf.2.2.1 rfl (q2 c0) dL_law_2625 rfl ?_
    refine ev_ild7 2628 dL_law_2626 rfl ?_
    refine ev_i2l 2629 dL_law_2628 rfl ?_
    rw [J_i2l _ hz2]
    refine ev_lcmp 2630 dL_law_2629 rfl ?_
    rw [lcmp_self]
    refine tj_if_eq 2635 2633 dL_law_2630 (by decide) rfl R31_0 (fun _ => ?_) (fun c => absurd rfl c)
    refine ev_goto 3533 dL_law_2635 (by decide) ?_
    exact ev_locals lsL_le (kk _ _ _ _ hf hT hI2)
set_option maxRecDepth 100000 in
set_option maxHeartbeats 4000000 in
theorem sg_whyLong {g : Gt} {α : AL} {ν : Nat → Nat → Bool} {X : XM} {h : AH} {k : Int} {i mc ms : Nat} {Q : RT → AH → Prop} (hl : (gX g).2.1 ≤ 2048) (hi : i + 3 < (gX g).2.1) (hT : TR g α ν X h) (hI : INV k ν X) (hk : k ≤ 512) (kk : ∀ α' ν' X' h', FIX α α' → TR g α' ν' X' h' → INV (k + 1) ν' X' → Ev g M_L_law 2048 3533 (lsL g α (i : Int)) [] h' mc ms Q) : Ev g M_L_law 2048 2638 (lsL g α (i : Int)) [] h (28 + mc) (287 + ms) Q := by
  obtain ⟨p1, r1, e1⟩ := scr_J ((gX g).2.2 (i + 1))
  obtain ⟨p2, r2, e2⟩ := scr_J ((gX g).2.2 (i + 2))
  obtain ⟨p3, r3, e3⟩ := scr_J ((gX g).2.2 (i + 3))
  obtain ⟨r, mc1, ms1, P, hr, hm1, hm2, hw, hp⟩ := pr_whyLong hT hI r1 r2
  have hr31 : R31 r := ⟨by omega, by omega⟩
  refine ev_mono (mc := mc1 + mc) (ms := ms1 + ms) (by omega) (by omega) ?_
  refine ev_ald1 2639 dL_law_2638 rfl ?_
  refine ev_ald0 2640 dL_law_2639 rfl ?_
  refine ev_ild5 2642 dL_law_2640 rfl ?_
  refine tj_iconst 2643 dL_law_2642 rfl ?_
  refine tj_iadd 2644 dL_law_2643 rfl ?_
  refine lq_scr (i + 1) 2645 (by omega) (by omega) hl e1 dL_law_2644 rfl ?_
  refine ev_ald0 2646 dL_law_2645 rfl ?_
  refine ev_ild5 2648 dL_law_2646 rfl ?_
  refine tj_iconst 2649 dL_law_2648 rfl ?_
  refine tj_iadd 2650 dL_law_2649 rfl ?_
  refine lq_scr (i + 2) 2651 (by omega) (by omega) hl e2 dL_law_2650 rfl ?_
  refine ev_ald3 2652 dL_law_2651 rfl ?_
  refine lh_S (As := [.ref (α 0 0), .int (J p1), .int (J p2), .ref (α 90 0)]) 2655 dL_law_2652 lh_310 hw (by decide) rfl rfl (Nat.le_of_ble_eq_true rfl) rfl (fun h α' ν' X1 hT hP => ?_)
  obtain ⟨hf, z2, dm, hz2, htz, hdm, hm⟩ := hp _ _ _ _ hT hP
  rw [hf.2.1] at hm
  have hb := tr40 hT
  rw [hf.2.1] at hb
  refine ev_ist6 2657 dL_law_2655 rfl (by decide) rfl ?_
  refine ev_ald2 2658 dL_law_2657 rfl ?_
  refine ev_ald0 2659 dL_law_2658 rfl ?_
  refine ev_ild5 2661 dL_law_2659 rfl ?_
  refine tj_iconst 2662 dL_law_2661 rfl ?_
  refine tj_iadd 2663 dL_law_2662 rfl ?_
  refine lq_scr (i + 1) 2664 (by omega) (by omega) hl e1 dL_law_2663 rfl ?_
  refine ev_ald0 2665 dL_law_2664 rfl ?_
  refine ev_ild5 2667 dL_law_2665 rfl ?_
  refine tj_iconst 2668 dL_law_2667 rfl ?_
  refine tj_iadd 2669 dL_law_2668 rfl ?_
  refine lq_scr (i + 2) 2670 (by omega) (by omega) hl e2 dL_law_2669 rfl ?_
  refine tm_V2 2673 14 dL_law_2670 lkv_L_312 hb rfl rfl (by omega) (Nat.le_of_ble_eq_true rfl) hm (fun h X2 hT hq => ?_)
  obtain ⟨q1, q2, hI2⟩ := hq
  have hb := tr40 hT
  have hth := c_X12_thrown hT
  rw [hf.2.1] at hb
  rw [hf.2.1, q1] at hth
  refine ev_ist7 2675 dL_law_2673 rfl (by decide) rfl ?_
  refine ev_ald2 2676 dL_law_2675 rfl ?_
  refine tc_V0 2679 14 dL_law_2676 lkv_L_188 hb rfl rfl (by decide) (Nat.le_of_ble_eq_true rfl) hth ?_
  refine ev_ild6 2681 dL_law_2679 rfl ?_
  refine tj_icmp_eq 2686 2684 dL_law_2681 (by decide) rfl hr31 hr31 (fun _ => ?_) (fun c => absurd rfl c)
  refine ev_ild6 2688 dL_law_2686 rfl ?_
  refine tj_if_ne 2703 2691 dL_law_2688 (by decide) rfl hr31 (fun c0 => ?_) (fun c0 => ?_)
  · skip
    refine ev_goto 3533 dL_law_2703 (by decide) ?_
    exact ev_locals lsL_le (kk _ _ _ _ hf hT hI2)
  · skip
    refine ev_ald3 2692 dL_law_2691 rfl ?_
    refine tj_iconst 2693 dL_law_2692 rfl ?_
    refine lq_lald 2694 hT hf.2.2.1 rfl (q2 c0) dL_law_2693 rfl ?_
    refine ev_ild7 2696 dL_law_2694 rfl ?_
    refine ev_i2l 2697 dL_law_2696 rfl ?_
    rw [J_i2l _ hz2]
    refine ev_lcmp 2698 dL_law_2697 rfl ?_
    rw [lcmp_self]
    refine tj_if_eq 2703 2701 dL_law_2698 (by decide) rfl R31_0 (fun _ => ?_) (fun c => absurd rfl c)
    refine ev_goto 3533 dL_law_2703 (by decide) ?_
    exact ev_locals lsL_le (kk _ _ _ _ hf hT hI2)
set_option maxRecDepth 100000 in
set_option maxHeartbeats 4000000 in
theorem sg_termsTo {g : Gt} {α : AL} {ν : Nat → Nat → Bool} {X : XM} {h : AH} {k : Int} {i mc ms : Nat} {Q : RT → AH → Prop} (hl : (gX g).2.1 ≤ 2048) (hi : i + 3 < (gX g).2.1) (hT : TR g α ν X h) (hI : INV k ν X) (hk : k ≤ 512) (kk : ∀ α' ν' X' h', FIX α α' → TR g α' ν' X' h' → INV (k + 1) ν' X' → Ev g M_L_law 2048 3533 (lsL g α (i : Int)) [] h' mc ms Q) : Ev g M_L_law 2048 2706 (lsL g α (i : Int)) [] h (28 + mc) (287 + ms) Q := by
  obtain ⟨p1, r1, e1⟩ := scr_J ((gX g).2.2 (i + 1))
  obtain ⟨p2, r2, e2⟩ := scr_J ((gX g).2.2 (i + 2))
  obtain ⟨p3, r3, e3⟩ := scr_J ((gX g).2.2 (i + 3))
  obtain ⟨r, mc1, ms1, P, hr, hm1, hm2, hw, hp⟩ := pr_termsTo hT hI r1
  have hr31 : R31 r := ⟨by omega, by omega⟩
  refine ev_mono (mc := mc1 + mc) (ms := ms1 + ms) (by omega) (by omega) ?_
  refine ev_ald1 2707 dL_law_2706 rfl ?_
  refine ev_ald0 2708 dL_law_2707 rfl ?_
  refine ev_ild5 2710 dL_law_2708 rfl ?_
  refine tj_iconst 2711 dL_law_2710 rfl ?_
  refine tj_iadd 2712 dL_law_2711 rfl ?_
  refine lq_scr (i + 1) 2713 (by omega) (by omega) hl e1 dL_law_2712 rfl ?_
  refine ev_ald3 2714 dL_law_2713 rfl ?_
  refine lh_S (As := [.ref (α 0 0), .int (J p1), .ref (α 90 0)]) 2717 dL_law_2714 lh_313 hw (by decide) rfl rfl (Nat.le_of_ble_eq_true rfl) rfl (fun h α' ν' X1 hT hP => ?_)
  obtain ⟨hf, z2, dm, hz2, htz, hdm, hm⟩ := hp _ _ _ _ hT hP
  rw [hf.2.1] at hm
  have hb := tr40 hT
  rw [hf.2.1] at hb
  refine ev_ist6 2719 dL_law_2717 rfl (by decide) rfl ?_
  refine ev_ald2 2720 dL_law_2719 rfl ?_
  refine ev_ald0 2721 dL_law_2720 rfl ?_
  refine ev_ild5 2723 dL_law_2721 rfl ?_
  refine tj_iconst 2724 dL_law_2723 rfl ?_
  refine tj_iadd 2725 dL_law_2724 rfl ?_
  refine lq_scr (i + 1) 2726 (by omega) (by omega) hl e1 dL_law_2725 rfl ?_
  refine tm_V1 2729 14 dL_law_2726 lkv_L_315 hb rfl rfl (by omega) (Nat.le_of_ble_eq_true rfl) hm (fun h X2 hT hq => ?_)
  obtain ⟨q1, q2, hI2⟩ := hq
  have hb := tr40 hT
  have hth := c_X12_thrown hT
  rw [hf.2.1] at hb
  rw [hf.2.1, q1] at hth
  refine ev_ist7 2731 dL_law_2729 rfl (by decide) rfl ?_
  refine ev_ald2 2732 dL_law_2731 rfl ?_
  refine tc_V0 2735 14 dL_law_2732 lkv_L_188 hb rfl rfl (by decide) (Nat.le_of_ble_eq_true rfl) hth ?_
  refine ev_ild6 2737 dL_law_2735 rfl ?_
  refine tj_icmp_eq 2742 2740 dL_law_2737 (by decide) rfl hr31 hr31 (fun _ => ?_) (fun c => absurd rfl c)
  refine ev_ild6 2744 dL_law_2742 rfl ?_
  refine tj_if_ne 2759 2747 dL_law_2744 (by decide) rfl hr31 (fun c0 => ?_) (fun c0 => ?_)
  · skip
    refine ev_goto 3533 dL_law_2759 (by decide) ?_
    exact ev_locals lsL_le (kk _ _ _ _ hf hT hI2)
  · skip
    refine ev_ald3 2748 dL_law_2747 rfl ?_
    refine tj_iconst 2749 dL_law_2748 rfl ?_
    refine lq_lald 2750 hT hf.2.2.1 rfl (q2 c0) dL_law_2749 rfl ?_
    refine ev_ild7 2752 dL_law_2750 rfl ?_
    refine ev_i2l 2753 dL_law_2752 rfl ?_
    rw [J_i2l _ hz2]
    refine ev_lcmp 2754 dL_law_2753 rfl ?_
    rw [lcmp_self]
    refine tj_if_eq 2759 2757 dL_law_2754 (by decide) rfl R31_0 (fun _ => ?_) (fun c => absurd rfl c)
    refine ev_goto 3533 dL_law_2759 (by decide) ?_
    exact ev_locals lsL_le (kk _ _ _ _ hf hT hI2)
set_option maxRecDepth 100000 in
set_option maxHeartbeats 4000000 in
theorem sg_transcriptLength {g : Gt} {α : AL} {ν : Nat → Nat → Bool} {X : XM} {h : AH} {k : Int} {i mc ms : Nat} {Q : RT → AH → Prop} (hl : (gX g).2.1 ≤ 2048) (hi : i + 3 < (gX g).2.1) (hT : TR g α ν X h) (hI : INV k ν X) (hk : k ≤ 512) (kk : ∀ α' ν' X' h', FIX α α' → TR g α' ν' X' h' → INV (k + 1) ν' X' → Ev g M_L_law 2048 3533 (lsL g α (i : Int)) [] h' mc ms Q) : Ev g M_L_law 2048 2762 (lsL g α (i : Int)) [] h (28 + mc) (287 + ms) Q := by
  obtain ⟨p1, r1, e1⟩ := scr_J ((gX g).2.2 (i + 1))
  obtain ⟨p2, r2, e2⟩ := scr_J ((gX g).2.2 (i + 2))
  obtain ⟨p3, r3, e3⟩ := scr_J ((gX g).2.2 (i + 3))
  obtain ⟨r, mc1, ms1, P, hr, hm1, hm2, hw, hp⟩ := pr_transcriptLength hT hI r1
  have hr31 : R31 r := ⟨by omega, by omega⟩
  refine ev_mono (mc := mc1 + mc) (ms := ms1 + ms) (by omega) (by omega) ?_
  refine ev_ald1 2763 dL_law_2762 rfl ?_
  refine ev_ald0 2764 dL_law_2763 rfl ?_
  refine ev_ild5 2766 dL_law_2764 rfl ?_
  refine tj_iconst 2767 dL_law_2766 rfl ?_
  refine tj_iadd 2768 dL_law_2767 rfl ?_
  refine lq_scr (i + 1) 2769 (by omega) (by omega) hl e1 dL_law_2768 rfl ?_
  refine ev_ald3 2770 dL_law_2769 rfl ?_
  refine lh_S (As := [.ref (α 0 0), .int (J p1), .ref (α 90 0)]) 2773 dL_law_2770 lh_316 hw (by decide) rfl rfl (Nat.le_of_ble_eq_true rfl) rfl (fun h α' ν' X1 hT hP => ?_)
  obtain ⟨hf, z2, dm, hz2, htz, hdm, hm⟩ := hp _ _ _ _ hT hP
  rw [hf.2.1] at hm
  have hb := tr40 hT
  rw [hf.2.1] at hb
  refine ev_ist6 2775 dL_law_2773 rfl (by decide) rfl ?_
  refine ev_ald2 2776 dL_law_2775 rfl ?_
  refine ev_ald0 2777 dL_law_2776 rfl ?_
  refine ev_ild5 2779 dL_law_2777 rfl ?_
  refine tj_iconst 2780 dL_law_2779 rfl ?_
  refine tj_iadd 2781 dL_law_2780 rfl ?_
  refine lq_scr (i + 1) 2782 (by omega) (by omega) hl e1 dL_law_2781 rfl ?_
  refine tm_V1 2785 14 dL_law_2782 lkv_L_318 hb rfl rfl (by omega) (Nat.le_of_ble_eq_true rfl) hm (fun h X2 hT hq => ?_)
  obtain ⟨q1, q2, hI2⟩ := hq
  have hb := tr40 hT
  have hth := c_X12_thrown hT
  rw [hf.2.1] at hb
  rw [hf.2.1, q1] at hth
  refine ev_ist7 2787 dL_law_2785 rfl (by decide) rfl ?_
  refine ev_ald2 2788 dL_law_2787 rfl ?_
  refine tc_V0 2791 14 dL_law_2788 lkv_L_188 hb rfl rfl (by decide) (Nat.le_of_ble_eq_true rfl) hth ?_
  refine ev_ild6 2793 dL_law_2791 rfl ?_
  refine tj_icmp_eq 2798 2796 dL_law_2793 (by decide) rfl hr31 hr31 (fun _ => ?_) (fun c => absurd rfl c)
  refine ev_ild6 2800 dL_law_2798 rfl ?_
  refine tj_if_ne 2815 2803 dL_law_2800 (by decide) rfl hr31 (fun c0 => ?_) (fun c0 => ?_)
  · skip
    refine ev_goto 3533 dL_law_2815 (by decide) ?_
    exact ev_locals lsL_le (kk _ _ _ _ hf hT hI2)
  · skip
    refine ev_ald3 2804 dL_law_2803 rfl ?_
    refine tj_iconst 2805 dL_law_2804 rfl ?_
    refine lq_lald 2806 hT hf.2.2.1 rfl (q2 c0) dL_law_2805 rfl ?_
    refine ev_ild7 2808 dL_law_2806 rfl ?_
    refine ev_i2l 2809 dL_law_2808 rfl ?_
    rw [J_i2l _ hz2]
    refine ev_lcmp 2810 dL_law_2809 rfl ?_
    rw [lcmp_self]
    refine tj_if_eq 2815 2813 dL_law_2810 (by decide) rfl R31_0 (fun _ => ?_) (fun c => absurd rfl c)
    refine ev_goto 3533 dL_law_2815 (by decide) ?_
    exact ev_locals lsL_le (kk _ _ _ _ hf hT hI2)
set_option maxRecDepth 100000 in
set_option maxHeartbeats 4000000 in
theorem sg_transcriptAt {g : Gt} {α : AL} {ν : Nat → Nat → Bool} {X : XM} {h : AH} {k : Int} {i mc ms : Nat} {Q : RT → AH → Prop} (hl : (gX g).2.1 ≤ 2048) (hi : i + 3 < (gX g).2.1) (hT : TR g α ν X h) (hI : INV k ν X) (hk : k ≤ 512) (kk : ∀ α' ν' X' h', FIX α α' → TR g α' ν' X' h' → INV (k + 1) ν' X' → Ev g M_L_law 2048 3533 (lsL g α (i : Int)) [] h' mc ms Q) : Ev g M_L_law 2048 2818 (lsL g α (i : Int)) [] h (28 + mc) (287 + ms) Q := by
  obtain ⟨p1, r1, e1⟩ := scr_J ((gX g).2.2 (i + 1))
  obtain ⟨p2, r2, e2⟩ := scr_J ((gX g).2.2 (i + 2))
  obtain ⟨p3, r3, e3⟩ := scr_J ((gX g).2.2 (i + 3))
  obtain ⟨r, mc1, ms1, P, hr, hm1, hm2, hw, hp⟩ := pr_transcriptAt hT hI r1 r2
  have hr31 : R31 r := ⟨by omega, by omega⟩
  refine ev_mono (mc := mc1 + mc) (ms := ms1 + ms) (by omega) (by omega) ?_
  refine ev_ald1 2819 dL_law_2818 rfl ?_
  refine ev_ald0 2820 dL_law_2819 rfl ?_
  refine ev_ild5 2822 dL_law_2820 rfl ?_
  refine tj_iconst 2823 dL_law_2822 rfl ?_
  refine tj_iadd 2824 dL_law_2823 rfl ?_
  refine lq_scr (i + 1) 2825 (by omega) (by omega) hl e1 dL_law_2824 rfl ?_
  refine ev_ald0 2826 dL_law_2825 rfl ?_
  refine ev_ild5 2828 dL_law_2826 rfl ?_
  refine tj_iconst 2829 dL_law_2828 rfl ?_
  refine tj_iadd 2830 dL_law_2829 rfl ?_
  refine lq_scr (i + 2) 2831 (by omega) (by omega) hl e2 dL_law_2830 rfl ?_
  refine ev_ald3 2832 dL_law_2831 rfl ?_
  refine lh_S (As := [.ref (α 0 0), .int (J p1), .int (J p2), .ref (α 90 0)]) 2835 dL_law_2832 lh_319 hw (by decide) rfl rfl (Nat.le_of_ble_eq_true rfl) rfl (fun h α' ν' X1 hT hP => ?_)
  obtain ⟨hf, z2, dm, hz2, htz, hdm, hm⟩ := hp _ _ _ _ hT hP
  rw [hf.2.1] at hm
  have hb := tr40 hT
  rw [hf.2.1] at hb
  refine ev_ist6 2837 dL_law_2835 rfl (by decide) rfl ?_
  refine ev_ald2 2838 dL_law_2837 rfl ?_
  refine ev_ald0 2839 dL_law_2838 rfl ?_
  refine ev_ild5 2841 dL_law_2839 rfl ?_
  refine tj_iconst 2842 dL_law_2841 rfl ?_
  refine tj_iadd 2843 dL_law_2842 rfl ?_
  refine lq_scr (i + 1) 2844 (by omega) (by omega) hl e1 dL_law_2843 rfl ?_
  refine ev_ald0 2845 dL_law_2844 rfl ?_
  refine ev_ild5 2847 dL_law_2845 rfl ?_
  refine tj_iconst 2848 dL_law_2847 rfl ?_
  refine tj_iadd 2849 dL_law_2848 rfl ?_
  refine lq_scr (i + 2) 2850 (by omega) (by omega) hl e2 dL_law_2849 rfl ?_
  refine tm_V2 2853 14 dL_law_2850 lkv_L_321 hb rfl rfl (by omega) (Nat.le_of_ble_eq_true rfl) hm (fun h X2 hT hq => ?_)
  obtain ⟨q1, q2, hI2⟩ := hq
  have hb := tr40 hT
  have hth := c_X12_thrown hT
  rw [hf.2.1] at hb
  rw [hf.2.1, q1] at hth
  refine ev_ist7 2855 dL_law_2853 rfl (by decide) rfl ?_
  refine ev_ald2 2856 dL_law_2855 rfl ?_
  refine tc_V0 2859 14 dL_law_2856 lkv_L_188 hb rfl rfl (by decide) (Nat.le_of_ble_eq_true rfl) hth ?_
  refine ev_ild6 2861 dL_law_2859 rfl ?_
  refine tj_icmp_eq 2866 2864 dL_law_2861 (by decide) rfl hr31 hr31 (fun _ => ?_) (fun c => absurd rfl c)
  refine ev_ild6 2868 dL_law_2866 rfl ?_
  refine tj_if_ne 2883 2871 dL_law_2868 (by decide) rfl hr31 (fun c0 => ?_) (fun c0 => ?_)
  · skip
    refine ev_goto 3533 dL_law_2883 (by decide) ?_
    exact ev_locals lsL_le (kk _ _ _ _ hf hT hI2)
  · skip
    refine ev_ald3 2872 dL_law_2871 rfl ?_
    refine tj_iconst 2873 dL_law_2872 rfl ?_
    refine lq_lald 2874 hT hf.2.2.1 rfl (q2 c0) dL_law_2873 rfl ?_
    refine ev_ild7 2876 dL_law_2874 rfl ?_
    refine ev_i2l 2877 dL_law_2876 rfl ?_
    rw [J_i2l _ hz2]
    refine ev_lcmp 2878 dL_law_2877 rfl ?_
    rw [lcmp_self]
    refine tj_if_eq 2883 2881 dL_law_2878 (by decide) rfl R31_0 (fun _ => ?_) (fun c => absurd rfl c)
    refine ev_goto 3533 dL_law_2883 (by decide) ?_
    exact ev_locals lsL_le (kk _ _ _ _ hf hT hI2)
set_option maxRecDepth 100000 in
set_option maxHeartbeats 4000000 in
theorem sg_addRule {g : Gt} {α : AL} {ν : Nat → Nat → Bool} {X : XM} {h : AH} {k : Int} {i mc ms : Nat} {Q : RT → AH → Prop} (hl : (gX g).2.1 ≤ 2048) (hi : i + 3 < (gX g).2.1) (hT : TR g α ν X h) (hI : INV k ν X) (hk : k ≤ 512) (kk : ∀ α' ν' X' h', FIX α α' → TR g α' ν' X' h' → INV (k + 1) ν' X' → Ev g M_L_law 2048 3533 (lsL g α (i : Int)) [] h' mc ms Q) : Ev g M_L_law 2048 2886 (lsL g α (i : Int)) [] h (28 + mc) (287 + ms) Q := by
  obtain ⟨p1, r1, e1⟩ := scr_J ((gX g).2.2 (i + 1))
  obtain ⟨p2, r2, e2⟩ := scr_J ((gX g).2.2 (i + 2))
  obtain ⟨p3, r3, e3⟩ := scr_J ((gX g).2.2 (i + 3))
  obtain ⟨r, mc1, ms1, P, hr, hm1, hm2, hw, hp⟩ := pr_addRule hT hI r1 r2 r3
  have hr31 : R31 r := ⟨by omega, by omega⟩
  refine ev_mono (mc := mc1 + mc) (ms := ms1 + ms) (by omega) (by omega) ?_
  refine ev_ald1 2887 dL_law_2886 rfl ?_
  refine ev_ald0 2888 dL_law_2887 rfl ?_
  refine ev_ild5 2890 dL_law_2888 rfl ?_
  refine tj_iconst 2891 dL_law_2890 rfl ?_
  refine tj_iadd 2892 dL_law_2891 rfl ?_
  refine lq_scr (i + 1) 2893 (by omega) (by omega) hl e1 dL_law_2892 rfl ?_
  refine ev_ald0 2894 dL_law_2893 rfl ?_
  refine ev_ild5 2896 dL_law_2894 rfl ?_
  refine tj_iconst 2897 dL_law_2896 rfl ?_
  refine tj_iadd 2898 dL_law_2897 rfl ?_
  refine lq_scr (i + 2) 2899 (by omega) (by omega) hl e2 dL_law_2898 rfl ?_
  refine ev_ald0 2900 dL_law_2899 rfl ?_
  refine ev_ild5 2902 dL_law_2900 rfl ?_
  refine tj_iconst 2903 dL_law_2902 rfl ?_
  refine tj_iadd 2904 dL_law_2903 rfl ?_
  refine lq_scr (i + 3) 2905 (by omega) (by omega) hl e3 dL_law_2904 rfl ?_
  refine ev_ald3 2906 dL_law_2905 rfl ?_
  refine lh_S (As := [.ref (α 0 0), .int (J p1), .int (J p2), .int (J p3), .ref (α 90 0)]) 2909 dL_law_2906 lh_322 hw (by decide) rfl rfl (Nat.le_of_ble_eq_true rfl) rfl (fun h α' ν' X1 hT hP => ?_)
  obtain ⟨hf, z2, dm, hz2, htz, hdm, hm⟩ := hp _ _ _ _ hT hP
  rw [hf.2.1] at hm
  have hb := tr40 hT
  rw [hf.2.1] at hb
  refine ev_ist6 2911 dL_law_2909 rfl (by decide) rfl ?_
  refine ev_ald2 2912 dL_law_2911 rfl ?_
  refine ev_ald0 2913 dL_law_2912 rfl ?_
  refine ev_ild5 2915 dL_law_2913 rfl ?_
  refine tj_iconst 2916 dL_law_2915 rfl ?_
  refine tj_iadd 2917 dL_law_2916 rfl ?_
  refine lq_scr (i + 1) 2918 (by omega) (by omega) hl e1 dL_law_2917 rfl ?_
  refine ev_ald0 2919 dL_law_2918 rfl ?_
  refine ev_ild5 2921 dL_law_2919 rfl ?_
  refine tj_iconst 2922 dL_law_2921 rfl ?_
  refine tj_iadd 2923 dL_law_2922 rfl ?_
  refine lq_scr (i + 2) 2924 (by omega) (by omega) hl e2 dL_law_2923 rfl ?_
  refine ev_ald0 2925 dL_law_2924 rfl ?_
  refine ev_ild5 2927 dL_law_2925 rfl ?_
  refine tj_iconst 2928 dL_law_2927 rfl ?_
  refine tj_iadd 2929 dL_law_2928 rfl ?_
  refine lq_scr (i + 3) 2930 (by omega) (by omega) hl e3 dL_law_2929 rfl ?_
  refine tm_V3 2933 14 dL_law_2930 lkv_L_324 hb rfl rfl (by omega) (Nat.le_of_ble_eq_true rfl) hm (fun h X2 hT hq => ?_)
  obtain ⟨q1, q2, hI2⟩ := hq
  have hb := tr40 hT
  have hth := c_X12_thrown hT
  rw [hf.2.1] at hb
  rw [hf.2.1, q1] at hth
  refine ev_ist7 2935 dL_law_2933 rfl (by decide) rfl ?_
  refine ev_ald2 2936 dL_law_2935 rfl ?_
  refine tc_V0 2939 14 dL_law_2936 lkv_L_188 hb rfl rfl (by decide) (Nat.le_of_ble_eq_true rfl) hth ?_
  refine ev_ild6 2941 dL_law_2939 rfl ?_
  refine tj_icmp_eq 2946 2944 dL_law_2941 (by decide) rfl hr31 hr31 (fun _ => ?_) (fun c => absurd rfl c)
  refine ev_ild6 2948 dL_law_2946 rfl ?_
  refine tj_if_ne 2963 2951 dL_law_2948 (by decide) rfl hr31 (fun c0 => ?_) (fun c0 => ?_)
  · skip
    refine ev_goto 3533 dL_law_2963 (by decide) ?_
    exact ev_locals lsL_le (kk _ _ _ _ hf hT hI2)
  · skip
    refine ev_ald3 2952 dL_law_2951 rfl ?_
    refine tj_iconst 2953 dL_law_2952 rfl ?_
    refine lq_lald 2954 hT hf.2.2.1 rfl (q2 c0) dL_law_2953 rfl ?_
    refine ev_ild7 2956 dL_law_2954 rfl ?_
    refine ev_i2l 2957 dL_law_2956 rfl ?_
    rw [J_i2l _ hz2]
    refine ev_lcmp 2958 dL_law_2957 rfl ?_
    rw [lcmp_self]
    refine tj_if_eq 2963 2961 dL_law_2958 (by decide) rfl R31_0 (fun _ => ?_) (fun c => absurd rfl c)
    refine ev_goto 3533 dL_law_2963 (by decide) ?_
    exact ev_locals lsL_le (kk _ _ _ _ hf hT hI2)
set_option maxRecDepth 100000 in
set_option maxHeartbeats 4000000 in
theorem sg_allow {g : Gt} {α : AL} {ν : Nat → Nat → Bool} {X : XM} {h : AH} {k : Int} {i mc ms : Nat} {Q : RT → AH → Prop} (hl : (gX g).2.1 ≤ 2048) (hi : i + 3 < (gX g).2.1) (hT : TR g α ν X h) (hI : INV k ν X) (hk : k ≤ 512) (kk : ∀ α' ν' X' h', FIX α α' → TR g α' ν' X' h' → INV (k + 1) ν' X' → Ev g M_L_law 2048 3533 (lsL g α (i : Int)) [] h' mc ms Q) : Ev g M_L_law 2048 2966 (lsL g α (i : Int)) [] h (28 + mc) (287 + ms) Q := by
  obtain ⟨p1, r1, e1⟩ := scr_J ((gX g).2.2 (i + 1))
  obtain ⟨p2, r2, e2⟩ := scr_J ((gX g).2.2 (i + 2))
  obtain ⟨p3, r3, e3⟩ := scr_J ((gX g).2.2 (i + 3))
  obtain ⟨r, mc1, ms1, P, hr, hm1, hm2, hw, hp⟩ := pr_allow hT hI r1 r2
  have hr31 : R31 r := ⟨by omega, by omega⟩
  refine ev_mono (mc := mc1 + mc) (ms := ms1 + ms) (by omega) (by omega) ?_
  refine ev_ald1 2967 dL_law_2966 rfl ?_
  refine ev_ald0 2968 dL_law_2967 rfl ?_
  refine ev_ild5 2970 dL_law_2968 rfl ?_
  refine tj_iconst 2971 dL_law_2970 rfl ?_
  refine tj_iadd 2972 dL_law_2971 rfl ?_
  refine lq_scr (i + 1) 2973 (by omega) (by omega) hl e1 dL_law_2972 rfl ?_
  refine ev_ald0 2974 dL_law_2973 rfl ?_
  refine ev_ild5 2976 dL_law_2974 rfl ?_
  refine tj_iconst 2977 dL_law_2976 rfl ?_
  refine tj_iadd 2978 dL_law_2977 rfl ?_
  refine lq_scr (i + 2) 2979 (by omega) (by omega) hl e2 dL_law_2978 rfl ?_
  refine ev_ald3 2980 dL_law_2979 rfl ?_
  refine lh_S (As := [.ref (α 0 0), .int (J p1), .int (J p2), .ref (α 90 0)]) 2983 dL_law_2980 lh_325 hw (by decide) rfl rfl (Nat.le_of_ble_eq_true rfl) rfl (fun h α' ν' X1 hT hP => ?_)
  obtain ⟨hf, z2, dm, hz2, htz, hdm, hm⟩ := hp _ _ _ _ hT hP
  rw [hf.2.1] at hm
  have hb := tr40 hT
  rw [hf.2.1] at hb
  refine ev_ist6 2985 dL_law_2983 rfl (by decide) rfl ?_
  refine ev_ald2 2986 dL_law_2985 rfl ?_
  refine ev_ald0 2987 dL_law_2986 rfl ?_
  refine ev_ild5 2989 dL_law_2987 rfl ?_
  refine tj_iconst 2990 dL_law_2989 rfl ?_
  refine tj_iadd 2991 dL_law_2990 rfl ?_
  refine lq_scr (i + 1) 2992 (by omega) (by omega) hl e1 dL_law_2991 rfl ?_
  refine ev_ald0 2993 dL_law_2992 rfl ?_
  refine ev_ild5 2995 dL_law_2993 rfl ?_
  refine tj_iconst 2996 dL_law_2995 rfl ?_
  refine tj_iadd 2997 dL_law_2996 rfl ?_
  refine lq_scr (i + 2) 2998 (by omega) (by omega) hl e2 dL_law_2997 rfl ?_
  refine tm_V2 3001 14 dL_law_2998 lkv_L_327 hb rfl rfl (by omega) (Nat.le_of_ble_eq_true rfl) hm (fun h X2 hT hq => ?_)
  obtain ⟨q1, q2, hI2⟩ := hq
  have hb := tr40 hT
  have hth := c_X12_thrown hT
  rw [hf.2.1] at hb
  rw [hf.2.1, q1] at hth
  refine ev_ist7 3003 dL_law_3001 rfl (by decide) rfl ?_
  refine ev_ald2 3004 dL_law_3003 rfl ?_
  refine tc_V0 3007 14 dL_law_3004 lkv_L_188 hb rfl rfl (by decide) (Nat.le_of_ble_eq_true rfl) hth ?_
  refine ev_ild6 3009 dL_law_3007 rfl ?_
  refine tj_icmp_eq 3014 3012 dL_law_3009 (by decide) rfl hr31 hr31 (fun _ => ?_) (fun c => absurd rfl c)
  refine ev_ild6 3016 dL_law_3014 rfl ?_
  refine tj_if_ne 3038 3019 dL_law_3016 (by decide) rfl hr31 (fun c0 => ?_) (fun c0 => ?_)
  · skip
    refine ev_goto 3533 dL_law_3038 (by decide) ?_
    exact ev_locals lsL_le (kk _ _ _ _ hf hT hI2)
  · skip
    refine ev_ald3 3020 dL_law_3019 rfl ?_
    refine tj_iconst 3021 dL_law_3020 rfl ?_
    refine lq_lald 3022 hT hf.2.2.1 rfl (q2 c0) dL_law_3021 rfl ?_
    obtain ⟨b, rfl⟩ := htz c0
    refine ev_ild7 3024 dL_law_3022 rfl ?_
    cases b with
    | false =>
      refine tb_if_eq 3031 3027 dL_law_3024 (by decide) rfl (fun c1 => ?_) (fun c1 => ?_)
      · skip
        refine ev_lconst (Int64.ofInt (bi false)) 3032 dL_law_3031 (by decide) rfl ?_
        refine ev_lcmp 3033 dL_law_3032 rfl ?_
        rw [lcmp_self]
        refine tj_if_eq 3038 3036 dL_law_3033 (by decide) rfl R31_0 (fun _ => ?_) (fun c => absurd rfl c)
        refine ev_goto 3533 dL_law_3038 (by decide) ?_
        exact ev_locals lsL_le (kk _ _ _ _ hf hT hI2)
      · cases c1
    | true =>
      refine tb_if_eq 3031 3027 dL_law_3024 (by decide) rfl (fun c1 => ?_) (fun c1 => ?_)
      · cases c1
      · skip
        refine ev_lconst (Int64.ofInt (bi true)) 3028 dL_law_3027 (by decide) rfl ?_
        refine ev_goto 3032 dL_law_3028 (by decide) ?_
        refine ev_lcmp 3033 dL_law_3032 rfl ?_
        rw [lcmp_self]
        refine tj_if_eq 3038 3036 dL_law_3033 (by decide) rfl R31_0 (fun _ => ?_) (fun c => absurd rfl c)
        refine ev_goto 3533 dL_law_3038 (by decide) ?_
        exact ev_locals lsL_le (kk _ _ _ _ hf hT hI2)
set_option maxRecDepth 100000 in
set_option maxHeartbeats 4000000 in
theorem sg_mostMet {g : Gt} {α : AL} {ν : Nat → Nat → Bool} {X : XM} {h : AH} {k : Int} {i mc ms : Nat} {Q : RT → AH → Prop} (hl : (gX g).2.1 ≤ 2048) (hi : i + 3 < (gX g).2.1) (hT : TR g α ν X h) (hI : INV k ν X) (hk : k ≤ 512) (kk : ∀ α' ν' X' h', FIX α α' → TR g α' ν' X' h' → INV (k + 1) ν' X' → Ev g M_L_law 2048 3533 (lsL g α (i : Int)) [] h' mc ms Q) : Ev g M_L_law 2048 3041 (lsL g α (i : Int)) [] h (28 + mc) (287 + ms) Q := by
  obtain ⟨p1, r1, e1⟩ := scr_J ((gX g).2.2 (i + 1))
  obtain ⟨p2, r2, e2⟩ := scr_J ((gX g).2.2 (i + 2))
  obtain ⟨p3, r3, e3⟩ := scr_J ((gX g).2.2 (i + 3))
  obtain ⟨r, mc1, ms1, P, hr, hm1, hm2, hw, hp⟩ := pr_mostMet hT hI r1
  have hr31 : R31 r := ⟨by omega, by omega⟩
  refine ev_mono (mc := mc1 + mc) (ms := ms1 + ms) (by omega) (by omega) ?_
  refine ev_ald1 3042 dL_law_3041 rfl ?_
  refine ev_ald0 3043 dL_law_3042 rfl ?_
  refine ev_ild5 3045 dL_law_3043 rfl ?_
  refine tj_iconst 3046 dL_law_3045 rfl ?_
  refine tj_iadd 3047 dL_law_3046 rfl ?_
  refine lq_scr (i + 1) 3048 (by omega) (by omega) hl e1 dL_law_3047 rfl ?_
  refine ev_ald3 3049 dL_law_3048 rfl ?_
  refine lh_S (As := [.ref (α 0 0), .int (J p1), .ref (α 90 0)]) 3052 dL_law_3049 lh_328 hw (by decide) rfl rfl (Nat.le_of_ble_eq_true rfl) rfl (fun h α' ν' X1 hT hP => ?_)
  obtain ⟨hf, z2, dm, hz2, htz, hdm, hm⟩ := hp _ _ _ _ hT hP
  rw [hf.2.1] at hm
  have hb := tr40 hT
  rw [hf.2.1] at hb
  refine ev_ist6 3054 dL_law_3052 rfl (by decide) rfl ?_
  refine ev_ald2 3055 dL_law_3054 rfl ?_
  refine ev_ald0 3056 dL_law_3055 rfl ?_
  refine ev_ild5 3058 dL_law_3056 rfl ?_
  refine tj_iconst 3059 dL_law_3058 rfl ?_
  refine tj_iadd 3060 dL_law_3059 rfl ?_
  refine lq_scr (i + 1) 3061 (by omega) (by omega) hl e1 dL_law_3060 rfl ?_
  refine tm_V1 3064 14 dL_law_3061 lkv_L_330 hb rfl rfl (by omega) (Nat.le_of_ble_eq_true rfl) hm (fun h X2 hT hq => ?_)
  obtain ⟨q1, q2, hI2⟩ := hq
  have hb := tr40 hT
  have hth := c_X12_thrown hT
  rw [hf.2.1] at hb
  rw [hf.2.1, q1] at hth
  refine ev_ist7 3066 dL_law_3064 rfl (by decide) rfl ?_
  refine ev_ald2 3067 dL_law_3066 rfl ?_
  refine tc_V0 3070 14 dL_law_3067 lkv_L_188 hb rfl rfl (by decide) (Nat.le_of_ble_eq_true rfl) hth ?_
  refine ev_ild6 3072 dL_law_3070 rfl ?_
  refine tj_icmp_eq 3077 3075 dL_law_3072 (by decide) rfl hr31 hr31 (fun _ => ?_) (fun c => absurd rfl c)
  refine ev_ild6 3079 dL_law_3077 rfl ?_
  refine tj_if_ne 3094 3082 dL_law_3079 (by decide) rfl hr31 (fun c0 => ?_) (fun c0 => ?_)
  · skip
    refine ev_goto 3533 dL_law_3094 (by decide) ?_
    exact ev_locals lsL_le (kk _ _ _ _ hf hT hI2)
  · skip
    refine ev_ald3 3083 dL_law_3082 rfl ?_
    refine tj_iconst 3084 dL_law_3083 rfl ?_
    refine lq_lald 3085 hT hf.2.2.1 rfl (q2 c0) dL_law_3084 rfl ?_
    refine ev_ild7 3087 dL_law_3085 rfl ?_
    refine ev_i2l 3088 dL_law_3087 rfl ?_
    rw [J_i2l _ hz2]
    refine ev_lcmp 3089 dL_law_3088 rfl ?_
    rw [lcmp_self]
    refine tj_if_eq 3094 3092 dL_law_3089 (by decide) rfl R31_0 (fun _ => ?_) (fun c => absurd rfl c)
    refine ev_goto 3533 dL_law_3094 (by decide) ?_
    exact ev_locals lsL_le (kk _ _ _ _ hf hT hI2)
set_option maxRecDepth 100000 in
set_option maxHeartbeats 4000000 in
theorem sg_mostMetByTrial {g : Gt} {α : AL} {ν : Nat → Nat → Bool} {X : XM} {h : AH} {k : Int} {i mc ms : Nat} {Q : RT → AH → Prop} (hl : (gX g).2.1 ≤ 2048) (hi : i + 3 < (gX g).2.1) (hT : TR g α ν X h) (hI : INV k ν X) (hk : k ≤ 512) (kk : ∀ α' ν' X' h', FIX α α' → TR g α' ν' X' h' → INV (k + 1) ν' X' → Ev g M_L_law 2048 3533 (lsL g α (i : Int)) [] h' mc ms Q) : Ev g M_L_law 2048 3097 (lsL g α (i : Int)) [] h (28 + mc) (287 + ms) Q := by
  obtain ⟨p1, r1, e1⟩ := scr_J ((gX g).2.2 (i + 1))
  obtain ⟨p2, r2, e2⟩ := scr_J ((gX g).2.2 (i + 2))
  obtain ⟨p3, r3, e3⟩ := scr_J ((gX g).2.2 (i + 3))
  obtain ⟨r, mc1, ms1, P, hr, hm1, hm2, hw, hp⟩ := pr_mostMetByTrial hT hI r1
  have hr31 : R31 r := ⟨by omega, by omega⟩
  refine ev_mono (mc := mc1 + mc) (ms := ms1 + ms) (by omega) (by omega) ?_
  refine ev_ald1 3098 dL_law_3097 rfl ?_
  refine ev_ald0 3099 dL_law_3098 rfl ?_
  refine ev_ild5 3101 dL_law_3099 rfl ?_
  refine tj_iconst 3102 dL_law_3101 rfl ?_
  refine tj_iadd 3103 dL_law_3102 rfl ?_
  refine lq_scr (i + 1) 3104 (by omega) (by omega) hl e1 dL_law_3103 rfl ?_
  refine ev_ald3 3105 dL_law_3104 rfl ?_
  refine lh_S (As := [.ref (α 0 0), .int (J p1), .ref (α 90 0)]) 3108 dL_law_3105 lh_331 hw (by decide) rfl rfl (Nat.le_of_ble_eq_true rfl) rfl (fun h α' ν' X1 hT hP => ?_)
  obtain ⟨hf, z2, dm, hz2, htz, hdm, hm⟩ := hp _ _ _ _ hT hP
  rw [hf.2.1] at hm
  have hb := tr40 hT
  rw [hf.2.1] at hb
  refine ev_ist6 3110 dL_law_3108 rfl (by decide) rfl ?_
  refine ev_ald2 3111 dL_law_3110 rfl ?_
  refine ev_ald0 3112 dL_law_3111 rfl ?_
  refine ev_ild5 3114 dL_law_3112 rfl ?_
  refine tj_iconst 3115 dL_law_3114 rfl ?_
  refine tj_iadd 3116 dL_law_3115 rfl ?_
  refine lq_scr (i + 1) 3117 (by omega) (by omega) hl e1 dL_law_3116 rfl ?_
  refine tm_V1 3120 14 dL_law_3117 lkv_L_333 hb rfl rfl (by omega) (Nat.le_of_ble_eq_true rfl) hm (fun h X2 hT hq => ?_)
  obtain ⟨q1, q2, hI2⟩ := hq
  have hb := tr40 hT
  have hth := c_X12_thrown hT
  rw [hf.2.1] at hb
  rw [hf.2.1, q1] at hth
  refine ev_ist7 3122 dL_law_3120 rfl (by decide) rfl ?_
  refine ev_ald2 3123 dL_law_3122 rfl ?_
  refine tc_V0 3126 14 dL_law_3123 lkv_L_188 hb rfl rfl (by decide) (Nat.le_of_ble_eq_true rfl) hth ?_
  refine ev_ild6 3128 dL_law_3126 rfl ?_
  refine tj_icmp_eq 3133 3131 dL_law_3128 (by decide) rfl hr31 hr31 (fun _ => ?_) (fun c => absurd rfl c)
  refine ev_ild6 3135 dL_law_3133 rfl ?_
  refine tj_if_ne 3150 3138 dL_law_3135 (by decide) rfl hr31 (fun c0 => ?_) (fun c0 => ?_)
  · skip
    refine ev_goto 3533 dL_law_3150 (by decide) ?_
    exact ev_locals lsL_le (kk _ _ _ _ hf hT hI2)
  · skip
    refine ev_ald3 3139 dL_law_3138 rfl ?_
    refine tj_iconst 3140 dL_law_3139 rfl ?_
    refine lq_lald 3141 hT hf.2.2.1 rfl (q2 c0) dL_law_3140 rfl ?_
    refine ev_ild7 3143 dL_law_3141 rfl ?_
    refine ev_i2l 3144 dL_law_3143 rfl ?_
    rw [J_i2l _ hz2]
    refine ev_lcmp 3145 dL_law_3144 rfl ?_
    rw [lcmp_self]
    refine tj_if_eq 3150 3148 dL_law_3145 (by decide) rfl R31_0 (fun _ => ?_) (fun c => absurd rfl c)
    refine ev_goto 3533 dL_law_3150 (by decide) ?_
    exact ev_locals lsL_le (kk _ _ _ _ hf hT hI2)
set_option maxRecDepth 100000 in
set_option maxHeartbeats 4000000 in
theorem sg_mostMetIf {g : Gt} {α : AL} {ν : Nat → Nat → Bool} {X : XM} {h : AH} {k : Int} {i mc ms : Nat} {Q : RT → AH → Prop} (hl : (gX g).2.1 ≤ 2048) (hi : i + 3 < (gX g).2.1) (hT : TR g α ν X h) (hI : INV k ν X) (hk : k ≤ 512) (kk : ∀ α' ν' X' h', FIX α α' → TR g α' ν' X' h' → INV (k + 1) ν' X' → Ev g M_L_law 2048 3533 (lsL g α (i : Int)) [] h' mc ms Q) : Ev g M_L_law 2048 3153 (lsL g α (i : Int)) [] h (28 + mc) (287 + ms) Q := by
  obtain ⟨p1, r1, e1⟩ := scr_J ((gX g).2.2 (i + 1))
  obtain ⟨p2, r2, e2⟩ := scr_J ((gX g).2.2 (i + 2))
  obtain ⟨p3, r3, e3⟩ := scr_J ((gX g).2.2 (i + 3))
  obtain ⟨r, mc1, ms1, P, hr, hm1, hm2, hw, hp⟩ := pr_mostMetIf hT hI r1
  have hr31 : R31 r := ⟨by omega, by omega⟩
  refine ev_mono (mc := mc1 + mc) (ms := ms1 + ms) (by omega) (by omega) ?_
  refine ev_ald1 3154 dL_law_3153 rfl ?_
  refine ev_ald0 3155 dL_law_3154 rfl ?_
  refine ev_ild5 3157 dL_law_3155 rfl ?_
  refine tj_iconst 3158 dL_law_3157 rfl ?_
  refine tj_iadd 3159 dL_law_3158 rfl ?_
  refine lq_scr (i + 1) 3160 (by omega) (by omega) hl e1 dL_law_3159 rfl ?_
  refine ev_ald3 3161 dL_law_3160 rfl ?_
  refine lh_S (As := [.ref (α 0 0), .int (J p1), .ref (α 90 0)]) 3164 dL_law_3161 lh_334 hw (by decide) rfl rfl (Nat.le_of_ble_eq_true rfl) rfl (fun h α' ν' X1 hT hP => ?_)
  obtain ⟨hf, z2, dm, hz2, htz, hdm, hm⟩ := hp _ _ _ _ hT hP
  rw [hf.2.1] at hm
  have hb := tr40 hT
  rw [hf.2.1] at hb
  refine ev_ist6 3166 dL_law_3164 rfl (by decide) rfl ?_
  refine ev_ald2 3167 dL_law_3166 rfl ?_
  refine ev_ald0 3168 dL_law_3167 rfl ?_
  refine ev_ild5 3170 dL_law_3168 rfl ?_
  refine tj_iconst 3171 dL_law_3170 rfl ?_
  refine tj_iadd 3172 dL_law_3171 rfl ?_
  refine lq_scr (i + 1) 3173 (by omega) (by omega) hl e1 dL_law_3172 rfl ?_
  refine tm_V1 3176 14 dL_law_3173 lkv_L_336 hb rfl rfl (by omega) (Nat.le_of_ble_eq_true rfl) hm (fun h X2 hT hq => ?_)
  obtain ⟨q1, q2, hI2⟩ := hq
  have hb := tr40 hT
  have hth := c_X12_thrown hT
  rw [hf.2.1] at hb
  rw [hf.2.1, q1] at hth
  refine ev_ist7 3178 dL_law_3176 rfl (by decide) rfl ?_
  refine ev_ald2 3179 dL_law_3178 rfl ?_
  refine tc_V0 3182 14 dL_law_3179 lkv_L_188 hb rfl rfl (by decide) (Nat.le_of_ble_eq_true rfl) hth ?_
  refine ev_ild6 3184 dL_law_3182 rfl ?_
  refine tj_icmp_eq 3189 3187 dL_law_3184 (by decide) rfl hr31 hr31 (fun _ => ?_) (fun c => absurd rfl c)
  refine ev_ild6 3191 dL_law_3189 rfl ?_
  refine tj_if_ne 3206 3194 dL_law_3191 (by decide) rfl hr31 (fun c0 => ?_) (fun c0 => ?_)
  · skip
    refine ev_goto 3533 dL_law_3206 (by decide) ?_
    exact ev_locals lsL_le (kk _ _ _ _ hf hT hI2)
  · skip
    refine ev_ald3 3195 dL_law_3194 rfl ?_
    refine tj_iconst 3196 dL_law_3195 rfl ?_
    refine lq_lald 3197 hT hf.2.2.1 rfl (q2 c0) dL_law_3196 rfl ?_
    refine ev_ild7 3199 dL_law_3197 rfl ?_
    refine ev_i2l 3200 dL_law_3199 rfl ?_
    rw [J_i2l _ hz2]
    refine ev_lcmp 3201 dL_law_3200 rfl ?_
    rw [lcmp_self]
    refine tj_if_eq 3206 3204 dL_law_3201 (by decide) rfl R31_0 (fun _ => ?_) (fun c => absurd rfl c)
    refine ev_goto 3533 dL_law_3206 (by decide) ?_
    exact ev_locals lsL_le (kk _ _ _ _ hf hT hI2)
set_option maxRecDepth 100000 in
set_option maxHeartbeats 4000000 in
theorem sg_lackingRules {g : Gt} {α : AL} {ν : Nat → Nat → Bool} {X : XM} {h : AH} {k : Int} {i mc ms : Nat} {Q : RT → AH → Prop} (hl : (gX g).2.1 ≤ 2048) (hi : i + 3 < (gX g).2.1) (hT : TR g α ν X h) (hI : INV k ν X) (hk : k ≤ 512) (kk : ∀ α' ν' X' h', FIX α α' → TR g α' ν' X' h' → INV (k + 1) ν' X' → Ev g M_L_law 2048 3533 (lsL g α (i : Int)) [] h' mc ms Q) : Ev g M_L_law 2048 3209 (lsL g α (i : Int)) [] h (28 + mc) (287 + ms) Q := by
  obtain ⟨p1, r1, e1⟩ := scr_J ((gX g).2.2 (i + 1))
  obtain ⟨p2, r2, e2⟩ := scr_J ((gX g).2.2 (i + 2))
  obtain ⟨p3, r3, e3⟩ := scr_J ((gX g).2.2 (i + 3))
  obtain ⟨r, mc1, ms1, P, hr, hm1, hm2, hw, hp⟩ := pr_lackingRules hT hI r1
  have hr31 : R31 r := ⟨by omega, by omega⟩
  refine ev_mono (mc := mc1 + mc) (ms := ms1 + ms) (by omega) (by omega) ?_
  refine ev_ald1 3210 dL_law_3209 rfl ?_
  refine ev_ald0 3211 dL_law_3210 rfl ?_
  refine ev_ild5 3213 dL_law_3211 rfl ?_
  refine tj_iconst 3214 dL_law_3213 rfl ?_
  refine tj_iadd 3215 dL_law_3214 rfl ?_
  refine lq_scr (i + 1) 3216 (by omega) (by omega) hl e1 dL_law_3215 rfl ?_
  refine ev_ald3 3217 dL_law_3216 rfl ?_
  refine lh_S (As := [.ref (α 0 0), .int (J p1), .ref (α 90 0)]) 3220 dL_law_3217 lh_337 hw (by decide) rfl rfl (Nat.le_of_ble_eq_true rfl) rfl (fun h α' ν' X1 hT hP => ?_)
  obtain ⟨hf, z2, dm, hz2, htz, hdm, hm⟩ := hp _ _ _ _ hT hP
  rw [hf.2.1] at hm
  have hb := tr40 hT
  rw [hf.2.1] at hb
  refine ev_ist6 3222 dL_law_3220 rfl (by decide) rfl ?_
  refine ev_ald2 3223 dL_law_3222 rfl ?_
  refine ev_ald0 3224 dL_law_3223 rfl ?_
  refine ev_ild5 3226 dL_law_3224 rfl ?_
  refine tj_iconst 3227 dL_law_3226 rfl ?_
  refine tj_iadd 3228 dL_law_3227 rfl ?_
  refine lq_scr (i + 1) 3229 (by omega) (by omega) hl e1 dL_law_3228 rfl ?_
  refine tm_V1 3232 14 dL_law_3229 lkv_L_339 hb rfl rfl (by omega) (Nat.le_of_ble_eq_true rfl) hm (fun h X2 hT hq => ?_)
  obtain ⟨q1, q2, hI2⟩ := hq
  have hb := tr40 hT
  have hth := c_X12_thrown hT
  rw [hf.2.1] at hb
  rw [hf.2.1, q1] at hth
  refine ev_ist7 3234 dL_law_3232 rfl (by decide) rfl ?_
  refine ev_ald2 3235 dL_law_3234 rfl ?_
  refine tc_V0 3238 14 dL_law_3235 lkv_L_188 hb rfl rfl (by decide) (Nat.le_of_ble_eq_true rfl) hth ?_
  refine ev_ild6 3240 dL_law_3238 rfl ?_
  refine tj_icmp_eq 3245 3243 dL_law_3240 (by decide) rfl hr31 hr31 (fun _ => ?_) (fun c => absurd rfl c)
  refine ev_ild6 3247 dL_law_3245 rfl ?_
  refine tj_if_ne 3262 3250 dL_law_3247 (by decide) rfl hr31 (fun c0 => ?_) (fun c0 => ?_)
  · skip
    refine ev_goto 3533 dL_law_3262 (by decide) ?_
    exact ev_locals lsL_le (kk _ _ _ _ hf hT hI2)
  · skip
    refine ev_ald3 3251 dL_law_3250 rfl ?_
    refine tj_iconst 3252 dL_law_3251 rfl ?_
    refine lq_lald 3253 hT hf.2.2.1 rfl (q2 c0) dL_law_3252 rfl ?_
    refine ev_ild7 3255 dL_law_3253 rfl ?_
    refine ev_i2l 3256 dL_law_3255 rfl ?_
    rw [J_i2l _ hz2]
    refine ev_lcmp 3257 dL_law_3256 rfl ?_
    rw [lcmp_self]
    refine tj_if_eq 3262 3260 dL_law_3257 (by decide) rfl R31_0 (fun _ => ?_) (fun c => absurd rfl c)
    refine ev_goto 3533 dL_law_3262 (by decide) ?_
    exact ev_locals lsL_le (kk _ _ _ _ hf hT hI2)
set_option maxRecDepth 100000 in
set_option maxHeartbeats 4000000 in
theorem sg_lackingByTrial {g : Gt} {α : AL} {ν : Nat → Nat → Bool} {X : XM} {h : AH} {k : Int} {i mc ms : Nat} {Q : RT → AH → Prop} (hl : (gX g).2.1 ≤ 2048) (hi : i + 3 < (gX g).2.1) (hT : TR g α ν X h) (hI : INV k ν X) (hk : k ≤ 512) (kk : ∀ α' ν' X' h', FIX α α' → TR g α' ν' X' h' → INV (k + 1) ν' X' → Ev g M_L_law 2048 3533 (lsL g α (i : Int)) [] h' mc ms Q) : Ev g M_L_law 2048 3265 (lsL g α (i : Int)) [] h (28 + mc) (287 + ms) Q := by
  obtain ⟨p1, r1, e1⟩ := scr_J ((gX g).2.2 (i + 1))
  obtain ⟨p2, r2, e2⟩ := scr_J ((gX g).2.2 (i + 2))
  obtain ⟨p3, r3, e3⟩ := scr_J ((gX g).2.2 (i + 3))
  obtain ⟨r, mc1, ms1, P, hr, hm1, hm2, hw, hp⟩ := pr_lackingByTrial hT hI r1
  have hr31 : R31 r := ⟨by omega, by omega⟩
  refine ev_mono (mc := mc1 + mc) (ms := ms1 + ms) (by omega) (by omega) ?_
  refine ev_ald1 3266 dL_law_3265 rfl ?_
  refine ev_ald0 3267 dL_law_3266 rfl ?_
  refine ev_ild5 3269 dL_law_3267 rfl ?_
  refine tj_iconst 3270 dL_law_3269 rfl ?_
  refine tj_iadd 3271 dL_law_3270 rfl ?_
  refine lq_scr (i + 1) 3272 (by omega) (by omega) hl e1 dL_law_3271 rfl ?_
  refine ev_ald3 3273 dL_law_3272 rfl ?_
  refine lh_S (As := [.ref (α 0 0), .int (J p1), .ref (α 90 0)]) 3276 dL_law_3273 lh_340 hw (by decide) rfl rfl (Nat.le_of_ble_eq_true rfl) rfl (fun h α' ν' X1 hT hP => ?_)
  obtain ⟨hf, z2, dm, hz2, htz, hdm, hm⟩ := hp _ _ _ _ hT hP
  rw [hf.2.1] at hm
  have hb := tr40 hT
  rw [hf.2.1] at hb
  refine ev_ist6 3278 dL_law_3276 rfl (by decide) rfl ?_
  refine ev_ald2 3279 dL_law_3278 rfl ?_
  refine ev_ald0 3280 dL_law_3279 rfl ?_
  refine ev_ild5 3282 dL_law_3280 rfl ?_
  refine tj_iconst 3283 dL_law_3282 rfl ?_
  refine tj_iadd 3284 dL_law_3283 rfl ?_
  refine lq_scr (i + 1) 3285 (by omega) (by omega) hl e1 dL_law_3284 rfl ?_
  refine tm_V1 3288 14 dL_law_3285 lkv_L_342 hb rfl rfl (by omega) (Nat.le_of_ble_eq_true rfl) hm (fun h X2 hT hq => ?_)
  obtain ⟨q1, q2, hI2⟩ := hq
  have hb := tr40 hT
  have hth := c_X12_thrown hT
  rw [hf.2.1] at hb
  rw [hf.2.1, q1] at hth
  refine ev_ist7 3290 dL_law_3288 rfl (by decide) rfl ?_
  refine ev_ald2 3291 dL_law_3290 rfl ?_
  refine tc_V0 3294 14 dL_law_3291 lkv_L_188 hb rfl rfl (by decide) (Nat.le_of_ble_eq_true rfl) hth ?_
  refine ev_ild6 3296 dL_law_3294 rfl ?_
  refine tj_icmp_eq 3301 3299 dL_law_3296 (by decide) rfl hr31 hr31 (fun _ => ?_) (fun c => absurd rfl c)
  refine ev_ild6 3303 dL_law_3301 rfl ?_
  refine tj_if_ne 3318 3306 dL_law_3303 (by decide) rfl hr31 (fun c0 => ?_) (fun c0 => ?_)
  · skip
    refine ev_goto 3533 dL_law_3318 (by decide) ?_
    exact ev_locals lsL_le (kk _ _ _ _ hf hT hI2)
  · skip
    refine ev_ald3 3307 dL_law_3306 rfl ?_
    refine tj_iconst 3308 dL_law_3307 rfl ?_
    refine lq_lald 3309 hT hf.2.2.1 rfl (q2 c0) dL_law_3308 rfl ?_
    refine ev_ild7 3311 dL_law_3309 rfl ?_
    refine ev_i2l 3312 dL_law_3311 rfl ?_
    rw [J_i2l _ hz2]
    refine ev_lcmp 3313 dL_law_3312 rfl ?_
    rw [lcmp_self]
    refine tj_if_eq 3318 3316 dL_law_3313 (by decide) rfl R31_0 (fun _ => ?_) (fun c => absurd rfl c)
    refine ev_goto 3533 dL_law_3318 (by decide) ?_
    exact ev_locals lsL_le (kk _ _ _ _ hf hT hI2)
set_option maxRecDepth 100000 in
set_option maxHeartbeats 4000000 in
theorem sg_ruleFor {g : Gt} {α : AL} {ν : Nat → Nat → Bool} {X : XM} {h : AH} {k : Int} {i mc ms : Nat} {Q : RT → AH → Prop} (hl : (gX g).2.1 ≤ 2048) (hi : i + 3 < (gX g).2.1) (hT : TR g α ν X h) (hI : INV k ν X) (hk : k ≤ 512) (kk : ∀ α' ν' X' h', FIX α α' → TR g α' ν' X' h' → INV (k + 1) ν' X' → Ev g M_L_law 2048 3533 (lsL g α (i : Int)) [] h' mc ms Q) : Ev g M_L_law 2048 3321 (lsL g α (i : Int)) [] h (28 + mc) (287 + ms) Q := by
  obtain ⟨p1, r1, e1⟩ := scr_J ((gX g).2.2 (i + 1))
  obtain ⟨p2, r2, e2⟩ := scr_J ((gX g).2.2 (i + 2))
  obtain ⟨p3, r3, e3⟩ := scr_J ((gX g).2.2 (i + 3))
  obtain ⟨r, mc1, ms1, P, hr, hm1, hm2, hw, hp⟩ := pr_ruleFor hT hI r1 r2
  have hr31 : R31 r := ⟨by omega, by omega⟩
  refine ev_mono (mc := mc1 + mc) (ms := ms1 + ms) (by omega) (by omega) ?_
  refine ev_ald1 3322 dL_law_3321 rfl ?_
  refine ev_ald0 3323 dL_law_3322 rfl ?_
  refine ev_ild5 3325 dL_law_3323 rfl ?_
  refine tj_iconst 3326 dL_law_3325 rfl ?_
  refine tj_iadd 3327 dL_law_3326 rfl ?_
  refine lq_scr (i + 1) 3328 (by omega) (by omega) hl e1 dL_law_3327 rfl ?_
  refine ev_ald0 3329 dL_law_3328 rfl ?_
  refine ev_ild5 3331 dL_law_3329 rfl ?_
  refine tj_iconst 3332 dL_law_3331 rfl ?_
  refine tj_iadd 3333 dL_law_3332 rfl ?_
  refine lq_scr (i + 2) 3334 (by omega) (by omega) hl e2 dL_law_3333 rfl ?_
  refine ev_ald3 3335 dL_law_3334 rfl ?_
  refine lh_S (As := [.ref (α 0 0), .int (J p1), .int (J p2), .ref (α 90 0)]) 3338 dL_law_3335 lh_343 hw (by decide) rfl rfl (Nat.le_of_ble_eq_true rfl) rfl (fun h α' ν' X1 hT hP => ?_)
  obtain ⟨hf, z2, dm, hz2, htz, hdm, hm⟩ := hp _ _ _ _ hT hP
  rw [hf.2.1] at hm
  have hb := tr40 hT
  rw [hf.2.1] at hb
  refine ev_ist6 3340 dL_law_3338 rfl (by decide) rfl ?_
  refine ev_ald2 3341 dL_law_3340 rfl ?_
  refine ev_ald0 3342 dL_law_3341 rfl ?_
  refine ev_ild5 3344 dL_law_3342 rfl ?_
  refine tj_iconst 3345 dL_law_3344 rfl ?_
  refine tj_iadd 3346 dL_law_3345 rfl ?_
  refine lq_scr (i + 1) 3347 (by omega) (by omega) hl e1 dL_law_3346 rfl ?_
  refine ev_ald0 3348 dL_law_3347 rfl ?_
  refine ev_ild5 3350 dL_law_3348 rfl ?_
  refine tj_iconst 3351 dL_law_3350 rfl ?_
  refine tj_iadd 3352 dL_law_3351 rfl ?_
  refine lq_scr (i + 2) 3353 (by omega) (by omega) hl e2 dL_law_3352 rfl ?_
  refine tm_V2 3356 14 dL_law_3353 lkv_L_345 hb rfl rfl (by omega) (Nat.le_of_ble_eq_true rfl) hm (fun h X2 hT hq => ?_)
  obtain ⟨q1, q2, hI2⟩ := hq
  have hb := tr40 hT
  have hth := c_X12_thrown hT
  rw [hf.2.1] at hb
  rw [hf.2.1, q1] at hth
  refine ev_ist7 3358 dL_law_3356 rfl (by decide) rfl ?_
  refine ev_ald2 3359 dL_law_3358 rfl ?_
  refine tc_V0 3362 14 dL_law_3359 lkv_L_188 hb rfl rfl (by decide) (Nat.le_of_ble_eq_true rfl) hth ?_
  refine ev_ild6 3364 dL_law_3362 rfl ?_
  refine tj_icmp_eq 3369 3367 dL_law_3364 (by decide) rfl hr31 hr31 (fun _ => ?_) (fun c => absurd rfl c)
  refine ev_ild6 3371 dL_law_3369 rfl ?_
  refine tj_if_ne 3386 3374 dL_law_3371 (by decide) rfl hr31 (fun c0 => ?_) (fun c0 => ?_)
  · skip
    refine ev_goto 3533 dL_law_3386 (by decide) ?_
    exact ev_locals lsL_le (kk _ _ _ _ hf hT hI2)
  · skip
    refine ev_ald3 3375 dL_law_3374 rfl ?_
    refine tj_iconst 3376 dL_law_3375 rfl ?_
    refine lq_lald 3377 hT hf.2.2.1 rfl (q2 c0) dL_law_3376 rfl ?_
    refine ev_ild7 3379 dL_law_3377 rfl ?_
    refine ev_i2l 3380 dL_law_3379 rfl ?_
    rw [J_i2l _ hz2]
    refine ev_lcmp 3381 dL_law_3380 rfl ?_
    rw [lcmp_self]
    refine tj_if_eq 3386 3384 dL_law_3381 (by decide) rfl R31_0 (fun _ => ?_) (fun c => absurd rfl c)
    refine ev_goto 3533 dL_law_3386 (by decide) ?_
    exact ev_locals lsL_le (kk _ _ _ _ hf hT hI2)
set_option maxRecDepth 100000 in
set_option maxHeartbeats 4000000 in
theorem sg_setDegree {g : Gt} {α : AL} {ν : Nat → Nat → Bool} {X : XM} {h : AH} {k : Int} {i mc ms : Nat} {Q : RT → AH → Prop} (hl : (gX g).2.1 ≤ 2048) (hi : i + 3 < (gX g).2.1) (hT : TR g α ν X h) (hI : INV k ν X) (hk : k ≤ 512) (kk : ∀ α' ν' X' h', FIX α α' → TR g α' ν' X' h' → INV (k + 1) ν' X' → Ev g M_L_law 2048 3533 (lsL g α (i : Int)) [] h' mc ms Q) : Ev g M_L_law 2048 3389 (lsL g α (i : Int)) [] h (28 + mc) (287 + ms) Q := by
  obtain ⟨p1, r1, e1⟩ := scr_J ((gX g).2.2 (i + 1))
  obtain ⟨p2, r2, e2⟩ := scr_J ((gX g).2.2 (i + 2))
  obtain ⟨p3, r3, e3⟩ := scr_J ((gX g).2.2 (i + 3))
  obtain ⟨r, mc1, ms1, P, hr, hm1, hm2, hw, hp⟩ := pr_setDegree hT hI r1 r2
  have hr31 : R31 r := ⟨by omega, by omega⟩
  refine ev_mono (mc := mc1 + mc) (ms := ms1 + ms) (by omega) (by omega) ?_
  refine ev_ald1 3390 dL_law_3389 rfl ?_
  refine ev_ald0 3391 dL_law_3390 rfl ?_
  refine ev_ild5 3393 dL_law_3391 rfl ?_
  refine tj_iconst 3394 dL_law_3393 rfl ?_
  refine tj_iadd 3395 dL_law_3394 rfl ?_
  refine lq_scr (i + 1) 3396 (by omega) (by omega) hl e1 dL_law_3395 rfl ?_
  refine ev_ald0 3397 dL_law_3396 rfl ?_
  refine ev_ild5 3399 dL_law_3397 rfl ?_
  refine tj_iconst 3400 dL_law_3399 rfl ?_
  refine tj_iadd 3401 dL_law_3400 rfl ?_
  refine lq_scr (i + 2) 3402 (by omega) (by omega) hl e2 dL_law_3401 rfl ?_
  refine ev_ald3 3403 dL_law_3402 rfl ?_
  refine lh_S (As := [.ref (α 0 0), .int (J p1), .int (J p2), .ref (α 90 0)]) 3406 dL_law_3403 lh_346 hw (by decide) rfl rfl (Nat.le_of_ble_eq_true rfl) rfl (fun h α' ν' X1 hT hP => ?_)
  obtain ⟨hf, z2, dm, hz2, htz, hdm, hm⟩ := hp _ _ _ _ hT hP
  rw [hf.2.1] at hm
  have hb := tr40 hT
  rw [hf.2.1] at hb
  refine ev_ist6 3408 dL_law_3406 rfl (by decide) rfl ?_
  refine ev_ald2 3409 dL_law_3408 rfl ?_
  refine ev_ald0 3410 dL_law_3409 rfl ?_
  refine ev_ild5 3412 dL_law_3410 rfl ?_
  refine tj_iconst 3413 dL_law_3412 rfl ?_
  refine tj_iadd 3414 dL_law_3413 rfl ?_
  refine lq_scr (i + 1) 3415 (by omega) (by omega) hl e1 dL_law_3414 rfl ?_
  refine ev_ald0 3416 dL_law_3415 rfl ?_
  refine ev_ild5 3418 dL_law_3416 rfl ?_
  refine tj_iconst 3419 dL_law_3418 rfl ?_
  refine tj_iadd 3420 dL_law_3419 rfl ?_
  refine lq_scr (i + 2) 3421 (by omega) (by omega) hl e2 dL_law_3420 rfl ?_
  refine tm_V2 3424 14 dL_law_3421 lkv_L_348 hb rfl rfl (by omega) (Nat.le_of_ble_eq_true rfl) hm (fun h X2 hT hq => ?_)
  obtain ⟨q1, q2, hI2⟩ := hq
  have hb := tr40 hT
  have hth := c_X12_thrown hT
  rw [hf.2.1] at hb
  rw [hf.2.1, q1] at hth
  refine ev_ist7 3426 dL_law_3424 rfl (by decide) rfl ?_
  refine ev_ald2 3427 dL_law_3426 rfl ?_
  refine tc_V0 3430 14 dL_law_3427 lkv_L_188 hb rfl rfl (by decide) (Nat.le_of_ble_eq_true rfl) hth ?_
  refine ev_ild6 3432 dL_law_3430 rfl ?_
  refine tj_icmp_eq 3437 3435 dL_law_3432 (by decide) rfl hr31 hr31 (fun _ => ?_) (fun c => absurd rfl c)
  refine ev_ild6 3439 dL_law_3437 rfl ?_
  refine tj_if_ne 3454 3442 dL_law_3439 (by decide) rfl hr31 (fun c0 => ?_) (fun c0 => ?_)
  · skip
    refine ev_goto 3533 dL_law_3454 (by decide) ?_
    exact ev_locals lsL_le (kk _ _ _ _ hf hT hI2)
  · skip
    refine ev_ald3 3443 dL_law_3442 rfl ?_
    refine tj_iconst 3444 dL_law_3443 rfl ?_
    refine lq_lald 3445 hT hf.2.2.1 rfl (q2 c0) dL_law_3444 rfl ?_
    refine ev_ild7 3447 dL_law_3445 rfl ?_
    refine ev_i2l 3448 dL_law_3447 rfl ?_
    rw [J_i2l _ hz2]
    refine ev_lcmp 3449 dL_law_3448 rfl ?_
    rw [lcmp_self]
    refine tj_if_eq 3454 3452 dL_law_3449 (by decide) rfl R31_0 (fun _ => ?_) (fun c => absurd rfl c)
    refine ev_goto 3533 dL_law_3454 (by decide) ?_
    exact ev_locals lsL_le (kk _ _ _ _ hf hT hI2)
set_option maxRecDepth 100000 in
set_option maxHeartbeats 4000000 in
theorem sg_canGraduate {g : Gt} {α : AL} {ν : Nat → Nat → Bool} {X : XM} {h : AH} {k : Int} {i mc ms : Nat} {Q : RT → AH → Prop} (hl : (gX g).2.1 ≤ 2048) (hi : i + 3 < (gX g).2.1) (hT : TR g α ν X h) (hI : INV k ν X) (hk : k ≤ 512) (kk : ∀ α' ν' X' h', FIX α α' → TR g α' ν' X' h' → INV (k + 1) ν' X' → Ev g M_L_law 2048 3533 (lsL g α (i : Int)) [] h' mc ms Q) : Ev g M_L_law 2048 3457 (lsL g α (i : Int)) [] h (28 + mc) (287 + ms) Q := by
  obtain ⟨p1, r1, e1⟩ := scr_J ((gX g).2.2 (i + 1))
  obtain ⟨p2, r2, e2⟩ := scr_J ((gX g).2.2 (i + 2))
  obtain ⟨p3, r3, e3⟩ := scr_J ((gX g).2.2 (i + 3))
  obtain ⟨r, mc1, ms1, P, hr, hm1, hm2, hw, hp⟩ := pr_canGraduate hT hI r1
  have hr31 : R31 r := ⟨by omega, by omega⟩
  refine ev_mono (mc := mc1 + mc) (ms := ms1 + ms) (by omega) (by omega) ?_
  refine ev_ald1 3458 dL_law_3457 rfl ?_
  refine ev_ald0 3459 dL_law_3458 rfl ?_
  refine ev_ild5 3461 dL_law_3459 rfl ?_
  refine tj_iconst 3462 dL_law_3461 rfl ?_
  refine tj_iadd 3463 dL_law_3462 rfl ?_
  refine lq_scr (i + 1) 3464 (by omega) (by omega) hl e1 dL_law_3463 rfl ?_
  refine ev_ald3 3465 dL_law_3464 rfl ?_
  refine lh_S (As := [.ref (α 0 0), .int (J p1), .ref (α 90 0)]) 3468 dL_law_3465 lh_349 hw (by decide) rfl rfl (Nat.le_of_ble_eq_true rfl) rfl (fun h α' ν' X1 hT hP => ?_)
  obtain ⟨hf, z2, dm, hz2, htz, hdm, hm⟩ := hp _ _ _ _ hT hP
  rw [hf.2.1] at hm
  have hb := tr40 hT
  rw [hf.2.1] at hb
  refine ev_ist6 3470 dL_law_3468 rfl (by decide) rfl ?_
  refine ev_ald2 3471 dL_law_3470 rfl ?_
  refine ev_ald0 3472 dL_law_3471 rfl ?_
  refine ev_ild5 3474 dL_law_3472 rfl ?_
  refine tj_iconst 3475 dL_law_3474 rfl ?_
  refine tj_iadd 3476 dL_law_3475 rfl ?_
  refine lq_scr (i + 1) 3477 (by omega) (by omega) hl e1 dL_law_3476 rfl ?_
  refine tm_V1 3480 14 dL_law_3477 lkv_L_351 hb rfl rfl (by omega) (Nat.le_of_ble_eq_true rfl) hm (fun h X2 hT hq => ?_)
  obtain ⟨q1, q2, hI2⟩ := hq
  have hb := tr40 hT
  have hth := c_X12_thrown hT
  rw [hf.2.1] at hb
  rw [hf.2.1, q1] at hth
  refine ev_ist7 3482 dL_law_3480 rfl (by decide) rfl ?_
  refine ev_ald2 3483 dL_law_3482 rfl ?_
  refine tc_V0 3486 14 dL_law_3483 lkv_L_188 hb rfl rfl (by decide) (Nat.le_of_ble_eq_true rfl) hth ?_
  refine ev_ild6 3488 dL_law_3486 rfl ?_
  refine tj_icmp_eq 3493 3491 dL_law_3488 (by decide) rfl hr31 hr31 (fun _ => ?_) (fun c => absurd rfl c)
  refine ev_ild6 3495 dL_law_3493 rfl ?_
  refine tj_if_ne 3517 3498 dL_law_3495 (by decide) rfl hr31 (fun c0 => ?_) (fun c0 => ?_)
  · skip
    refine ev_goto 3533 dL_law_3517 (by decide) ?_
    exact ev_locals lsL_le (kk _ _ _ _ hf hT hI2)
  · skip
    refine ev_ald3 3499 dL_law_3498 rfl ?_
    refine tj_iconst 3500 dL_law_3499 rfl ?_
    refine lq_lald 3501 hT hf.2.2.1 rfl (q2 c0) dL_law_3500 rfl ?_
    obtain ⟨b, rfl⟩ := htz c0
    refine ev_ild7 3503 dL_law_3501 rfl ?_
    cases b with
    | false =>
      refine tb_if_eq 3510 3506 dL_law_3503 (by decide) rfl (fun c1 => ?_) (fun c1 => ?_)
      · skip
        refine ev_lconst (Int64.ofInt (bi false)) 3511 dL_law_3510 (by decide) rfl ?_
        refine ev_lcmp 3512 dL_law_3511 rfl ?_
        rw [lcmp_self]
        refine tj_if_eq 3517 3515 dL_law_3512 (by decide) rfl R31_0 (fun _ => ?_) (fun c => absurd rfl c)
        refine ev_goto 3533 dL_law_3517 (by decide) ?_
        exact ev_locals lsL_le (kk _ _ _ _ hf hT hI2)
      · cases c1
    | true =>
      refine tb_if_eq 3510 3506 dL_law_3503 (by decide) rfl (fun c1 => ?_) (fun c1 => ?_)
      · cases c1
      · skip
        refine ev_lconst (Int64.ofInt (bi true)) 3507 dL_law_3506 (by decide) rfl ?_
        refine ev_goto 3511 dL_law_3507 (by decide) ?_
        refine ev_lcmp 3512 dL_law_3511 rfl ?_
        rw [lcmp_self]
        refine tj_if_eq 3517 3515 dL_law_3512 (by decide) rfl R31_0 (fun _ => ?_) (fun c => absurd rfl c)
        refine ev_goto 3533 dL_law_3517 (by decide) ?_
        exact ev_locals lsL_le (kk _ _ _ _ hf hT hI2)
