/-! EACH CASE OF THE LAW: fractions; calls without a try -/
theorem round_num (f : Jvm.FP.Core.Fmt) {x : Jvm.FP.Core.Datum} (h : x ≠ .nan) : Jvm.FP.Core.round f x ≠ .nan := by
  cases x with
  | nan => exact absurd rfl h
  | inf s => intro z; cases z
  | fin s c q => exact ratio_num _ _ _ _ _
theorem v64_dd {a b : Int} (hb : R31 b) (h0 : b ≠ 0) : Jvm.FP.Core.val64 (FP.ddiv (FP.i2d (J a)) (FP.i2d (J b))) ≠ .nan := by
  show Jvm.FP.Core.val64 (Jvm.FP.Core.ddiv (Jvm.FP.Core.i2d (J a)) (Jvm.FP.Core.i2d (J b))) ≠ _
  rw [Jvm.FP.Core.val64_ddiv]
  exact quot_num (Jvm.FP.Core.i2d_int _) (Jvm.FP.Core.i2d_int _) (by rw [J_toInt hb]; exact h0)
theorem v64_fd {a b : Int} (ha : 0 ≤ a ∧ a ≤ 1000) (hb : 0 < b ∧ b ≤ 1000) : Jvm.FP.Core.val64 (FP.f2d (FP.fdiv (FP.i2f (J a)) (FP.i2f (J b)))) ≠ .nan := by
  have hq : Jvm.FP.Core.val32 (FP.fdiv (FP.i2f (J a)) (FP.i2f (J b))) ≠ .nan := by
    show Jvm.FP.Core.val32 (Jvm.FP.Core.fdiv (Jvm.FP.Core.i2f (J a)) (Jvm.FP.Core.i2f (J b))) ≠ _
    rw [Jvm.FP.Core.val32_fdiv]
    exact quot_num (Jvm.FP.Core.i2f_int (by rw [J_toInt ⟨by omega, by omega⟩]; omega)) (Jvm.FP.Core.i2f_int (by rw [J_toInt ⟨by omega, by omega⟩]; omega)) (by rw [J_toInt ⟨by omega, by omega⟩]; omega)
  have hn : Jvm.FP.Core.fIsNaN (FP.fdiv (FP.i2f (J a)) (FP.i2f (J b))) = false := by
    unfold Jvm.FP.Core.fIsNaN Jvm.FP.Core.isNaN
    exact decide_eq_false hq
  unfold Jvm.FP.f2d
  rw [if_neg (by rw [hn]; decide), Jvm.FP.Core.val64_f2d]
  exact round_num _ hq
theorem dc_self {a : UInt64} (h : Jvm.FP.Core.val64 a ≠ .nan) : Op.cmpValue (FP.dcmp a a) .l = J 0 := by
  show Op.cmpValue (Jvm.FP.Core.dcmp a a) _ = _
  rw [Jvm.FP.Core.dcmp_self h]
  rfl
/-- a call whose answer is a fraction beside its reference -/
def PAIRD {T : Type} (mk : T → Value) (od : T → UInt64) (g : Gt) (α : AL) (ν : Nat → Nat → Bool) (X : XM) (h : AH) (k : Int) (ML M12 : Mt) (as : List Value) : Prop := ∃ (r : Int) (mc ms : Nat) (P : XM → Prop), (0 ≤ r ∧ r ≤ 8) ∧ mc ≤ 28 ∧ ms ≤ 287 ∧ Al g ML 29 (.ref (α 0 0) :: (as ++ [.ref (α 91 0)])) h mc ms (some (.int (J r))) (fun a n x => a = α ∧ n = ν ∧ P x) ∧ ∀ X' h', TR g α ν X' h' → P X' → ∃ w : T, Mu g α ν M12 27 (.ref (α 40 0) :: as) h' (some (mk w)) (fun X2 => X2 40 0 0 = r ∧ (r = 0 → UInt64.ofNat (X2 91 0 0).toNat = od w ∧ Jvm.FP.Core.val64 (od w) ≠ .nan) ∧ INV (k + 1) ν X2)
section LWD
variable {g : Gt} {α : AL} {ν : Nat → Nat → Bool} {X : XM} {h : AH} {k : Int} {ML M12 : Mt} {as : List Value} {T : Type} {mk : T → Value} {od : T → UInt64}
theorem inv_cz {x X2 : XM} {r : Int} (hI : INV k ν X) (hx : ∀ kk, kk < 17 → x kk = X kk) (hq : RM X X2 ∧ CZ x X2 r) : INV (k + 1) ν X2 :=
  inv_of hI.1 hI.2.1 hI.2.2.2.1 (by have := hI.2.2.2.2; omega) hq.1 (fun kk q => (hq.2.1 kk (by omega)).trans (hx kk q))
theorem paird_no {r : Int} {w : T} (hI : INV k ν X) (hr : 1 ≤ r ∧ r ≤ 8) (hw : Al g ML 29 (.ref (α 0 0) :: (as ++ [.ref (α 91 0)])) h 1 6 (some (.int (J r))) (fun a n x => a = α ∧ n = ν ∧ x = X)) (hc : ∀ h1, TR g α ν X h1 → Mu g α ν M12 27 (.ref (α 40 0) :: as) h1 (some (mk w)) (fun X2 => X2 = xs X 40 0 0 r)) : PAIRD mk od g α ν X h k ML M12 as := by
  refine ⟨r, 1, 6, _, ⟨by omega, hr.2⟩, by decide, by decide, hw, fun X' h' hT' hp => ?_⟩
  subst hp
  exact ⟨w, mu_wk (hc h' hT') (fun X2 e => by
    have q := e_x hI.2.2.1 X2 e
    exact ⟨q.2.2, fun z => absurd z (by omega), inv_cz hI (fun _ _ => rfl) q⟩)⟩
theorem paird_ok {w : T} {v : UInt64} (hI : INV k ν X) (hv : od w = v) (hn : Jvm.FP.Core.val64 v ≠ .nan) (hw : Al g ML 29 (.ref (α 0 0) :: (as ++ [.ref (α 91 0)])) h 0 0 (some (.int (J 0))) (fun a n x => a = α ∧ n = ν ∧ x = xs X 91 0 0 (v.toNat : Int))) (hc : ∀ X1 h1, TR g α ν X1 h1 → RM X X1 → Mu g α ν M12 27 (.ref (α 40 0) :: as) h1 (some (mk w)) (fun X2 => X2 = xs X1 40 0 0 0)) : PAIRD mk od g α ν X h k ML M12 as := by
  refine ⟨0, 0, 0, _, ⟨by decide, by decide⟩, by decide, by decide, hw, fun X' h' hT' hp => ?_⟩
  have hM : RM X X' := by rw [hp]; exact rm_out hI.2.2.1 (Or.inr (by decide))
  refine ⟨w, mu_wk (hc X' h' hT' hM) (fun X2 e => ?_)⟩
  have q := e_x hM X2 e
  refine ⟨q.2.2, fun _ => ⟨?_, by rw [hv]; exact hn⟩, inv_cz hI (fun kk z => by rw [hp]; exact xs_nk (by omega)) q⟩
  rw [e, xs_nk (by decide), hp, xs_at, if_pos rfl, hv, Int.toNat_natCast]
  exact UInt64.ofNat_toNat
end LWD
theorem pr_average {g : Gt} {α : AL} {ν : Nat → Nat → Bool} {X : XM} {h : AH} {k : Int} (hT : TR g α ν X h) (hI : INV k ν X) {a0 : Int} (ha0 : R31 a0) : PAIRD (fun w => Value.double w) (fun w => w) g α ν X h k M_L_average M_X12_average [.int (J a0)] := by
  have qc := wo_nC hI.1.1
  have qs := wo_nS hI.1.1
  by_cases hn : 0 ≤ a0 ∧ a0 < nS X
  · obtain ⟨s, rfl⟩ : ∃ z : Nat, a0 = (z : Int) := ⟨a0.toNat, by omega⟩
    have hs0 : (s : Int) < nS X := by omega
    have qa := av_R hI.1.1 hs0 (nC X).toNat (by omega)
    by_cases hz : avW X s (nC X).toNat = 0
    · exact paird_no (r := 2) (w := FP.dconst0) hI ⟨by decide, by decide⟩ (w_average_x2 hT (c_X11_average_x2 hT hI.1 hs0 hz)) (fun h1 hT1 => c_X12_average_x2 hT1 hI.1.1 hI.2.2.1 hs0 hz)
    · exact paird_ok (w := FP.ddiv (FP.i2d (J (avS X s (nC X).toNat))) (FP.i2d (J (avW X s (nC X).toNat)))) hI rfl (v64_dd ⟨by omega, by omega⟩ hz) (w_average_ok hT (c_X11_average_ok hT hI.1 hs0 hz)) (fun X1 h1 hT1 hM1 => c_X12_average_ok hT1 hI.1.1 hM1 hs0 hz)
  · exact paird_no (r := 1) (w := FP.dconst0) hI ⟨by decide, by decide⟩ (w_average_x1 hT (c_X11_average_b1 hT hI.1 ha0 hn)) (fun h1 hT1 => c_X12_average_b1 hT1 hI.1.1 hI.2.2.1 ha0 hn)
theorem pr_share {g : Gt} {α : AL} {ν : Nat → Nat → Bool} {X : XM} {h : AH} {k : Int} (hT : TR g α ν X h) (hI : INV k ν X) {a0 : Int} (ha0 : R31 a0) : PAIRD (fun w => Value.float w) (fun w => FP.f2d w) g α ν X h k M_L_share M_X12_share [.int (J a0)] := by
  have qc := wo_nC hI.1.1
  have qs := wo_nS hI.1.1
  by_cases hn : 0 ≤ a0 ∧ a0 < nC X
  · obtain ⟨c, rfl⟩ : ∃ z : Nat, a0 = (z : Int) := ⟨a0.toNat, by omega⟩
    have hc0 : (c : Int) < nC X := by omega
    have q1 := enr_0 hI.1.1 c
    have q2 := wo_sea hI.1.1 c hc0
    have hv := v64_fd (a := enr X c) (b := X 12 c 2) ⟨by omega, by omega⟩ ⟨by omega, by omega⟩
    exact paird_ok (w := FP.fdiv (FP.i2f (J (enr X c))) (FP.i2f (J (X 12 c 2)))) hI rfl hv (w_share_ok hT (n64_of hv) (c_X11_share_ok hT hI.1 hc0)) (fun X1 h1 hT1 hM1 => c_X12_share_ok hT1 hI.1.1 hM1 hc0)
  · exact paird_no (r := 1) (w := FP.fconst0) hI ⟨by decide, by decide⟩ (w_share_x1 hT (c_X11_share_b1 hT hI.1 ha0 hn)) (fun h1 hT1 => c_X12_share_b1 hT1 hI.1.1 hI.2.2.1 ha0 hn)
set_option maxRecDepth 100000 in
set_option maxHeartbeats 4000000 in
theorem sg_average {g : Gt} {α : AL} {ν : Nat → Nat → Bool} {X : XM} {h : AH} {k : Int} {i mc ms : Nat} {Q : RT → AH → Prop} (hl : (gX g).2.1 ≤ 2048) (hi : i + 3 < (gX g).2.1) (hT : TR g α ν X h) (hI : INV k ν X) (hk : k ≤ 512) (kk : ∀ α' ν' X' h', FIX α α' → TR g α' ν' X' h' → INV (k + 1) ν' X' → Ev g M_L_law 2048 3533 (lsL g α (i : Int)) [] h' mc ms Q) : Ev g M_L_law 2048 2036 (lsL g α (i : Int)) [] h (28 + mc) (287 + ms) Q := by
  obtain ⟨p1, r1, e1⟩ := scr_J ((gX g).2.2 (i + 1))
  obtain ⟨p2, r2, e2⟩ := scr_J ((gX g).2.2 (i + 2))
  obtain ⟨p3, r3, e3⟩ := scr_J ((gX g).2.2 (i + 3))
  obtain ⟨r, mc1, ms1, P, hr, hm1, hm2, hw, hp⟩ := pr_average hT hI r1
  have hr31 : R31 r := ⟨by omega, by omega⟩
  have hf := FIX.rf α
  refine ev_mono (mc := mc1 + mc) (ms := ms1 + ms) (by omega) (by omega) ?_
  refine ev_ald1 2037 dL_law_2036 rfl ?_
  refine ev_ald0 2038 dL_law_2037 rfl ?_
  refine ev_ild5 2040 dL_law_2038 rfl ?_
  refine tj_iconst 2041 dL_law_2040 rfl ?_
  refine tj_iadd 2042 dL_law_2041 rfl ?_
  refine lq_scr (i + 1) 2043 (by omega) (by omega) hl e1 dL_law_2042 rfl ?_
  refine ev_ald4 2045 dL_law_2043 rfl ?_
  refine lh_S (As := [.ref (α 0 0), .int (J p1), .ref (α 91 0)]) 2048 dL_law_2045 lh_282 hw (by decide) rfl rfl (Nat.le_of_ble_eq_true rfl) rfl (fun h α' ν' X1 hT1 hP => ?_)
  obtain ⟨ea, en, hP⟩ := hP
  rw [ea, en] at hT1
  obtain ⟨w, hm⟩ := hp _ _ hT1 hP
  refine ev_ist6 2050 dL_law_2048 rfl (by decide) rfl ?_
  refine ev_ald2 2051 dL_law_2050 rfl ?_
  refine ev_ald0 2052 dL_law_2051 rfl ?_
  refine ev_ild5 2054 dL_law_2052 rfl ?_
  refine tj_iconst 2055 dL_law_2054 rfl ?_
  refine tj_iadd 2056 dL_law_2055 rfl ?_
  refine lq_scr (i + 1) 2057 (by omega) (by omega) hl e1 dL_law_2056 rfl ?_
  refine tm_V1 2060 14 dL_law_2057 lkv_L_285 (tr40 hT1) rfl rfl (by decide) (Nat.le_of_ble_eq_true rfl) hm (fun h X2 hT hq => ?_)
  obtain ⟨q1, q2, hI2⟩ := hq
  have hb := tr40 hT
  have hth := c_X12_thrown hT
  rw [q1] at hth
  refine ev_dstore 2062 dL_law_2060 (ls2 := [some (.ref (gX g).1), some (.ref (α 0 0)), some (.ref (α 40 0)), some (.ref (α 90 0)), some (.ref (α 91 0)), some (.int (J (i : Int))), some (.int (J r)), some (.double w), none]) (by show stL _ 7 _ = _; simp [stL, stG, Value.category, ca2]) (by decide) rfl ?_
  refine ev_ald2 2063 dL_law_2062 rfl ?_
  refine tc_V0 2066 14 dL_law_2063 lkv_L_188 hb rfl rfl (by decide) (Nat.le_of_ble_eq_true rfl) hth ?_
  refine ev_ild6 2068 dL_law_2066 rfl ?_
  refine tj_icmp_eq 2073 2071 dL_law_2068 (by decide) rfl hr31 hr31 (fun _ => ?_) (fun c => absurd rfl c)
  refine ev_ild6 2075 dL_law_2073 rfl ?_
  refine tj_if_ne 2110 2078 dL_law_2075 (by decide) rfl hr31 (fun c0 => ?_) (fun c0 => ?_)
  · skip
    refine ev_goto 3533 dL_law_2110 (by decide) ?_
    exact ev_locals lsL_le (kk _ _ _ _ hf hT hI2)
  · skip
    obtain ⟨q3, q4⟩ := q2 c0
    have q3 : UInt64.ofNat (X2 91 0 0).toNat = w := q3
    have q4 : Jvm.FP.Core.val64 (w) ≠ .nan := q4
    refine ev_ald4 2080 dL_law_2078 rfl ?_
    refine tj_iconst 2081 dL_law_2080 rfl ?_
    refine lq_dald 2082 hT rfl rfl q3 dL_law_2081 rfl ?_
    refine ev_dload (x := w) 2084 dL_law_2082 (by show ldL _ 7 = _; simp [ldL]) rfl ?_
    refine ev_dcmp 2085 dL_law_2084 rfl ?_
    rw [dc_self q4]
    refine tj_if_eq 2110 2088 dL_law_2085 (by decide) rfl R31_0 (fun _ => ?_) (fun c => absurd rfl c)
    refine ev_goto 3533 dL_law_2110 (by decide) ?_
    exact ev_locals lsL_le (kk _ _ _ _ hf hT hI2)
set_option maxRecDepth 100000 in
set_option maxHeartbeats 4000000 in
theorem sg_share {g : Gt} {α : AL} {ν : Nat → Nat → Bool} {X : XM} {h : AH} {k : Int} {i mc ms : Nat} {Q : RT → AH → Prop} (hl : (gX g).2.1 ≤ 2048) (hi : i + 3 < (gX g).2.1) (hT : TR g α ν X h) (hI : INV k ν X) (hk : k ≤ 512) (kk : ∀ α' ν' X' h', FIX α α' → TR g α' ν' X' h' → INV (k + 1) ν' X' → Ev g M_L_law 2048 3533 (lsL g α (i : Int)) [] h' mc ms Q) : Ev g M_L_law 2048 2492 (lsL g α (i : Int)) [] h (28 + mc) (287 + ms) Q := by
  obtain ⟨p1, r1, e1⟩ := scr_J ((gX g).2.2 (i + 1))
  obtain ⟨p2, r2, e2⟩ := scr_J ((gX g).2.2 (i + 2))
  obtain ⟨p3, r3, e3⟩ := scr_J ((gX g).2.2 (i + 3))
  obtain ⟨r, mc1, ms1, P, hr, hm1, hm2, hw, hp⟩ := pr_share hT hI r1
  have hr31 : R31 r := ⟨by omega, by omega⟩
  have hf := FIX.rf α
  refine ev_mono (mc := mc1 + mc) (ms := ms1 + ms) (by omega) (by omega) ?_
  refine ev_ald1 2493 dL_law_2492 rfl ?_
  refine ev_ald0 2494 dL_law_2493 rfl ?_
  refine ev_ild5 2496 dL_law_2494 rfl ?_
  refine tj_iconst 2497 dL_law_2496 rfl ?_
  refine tj_iadd 2498 dL_law_2497 rfl ?_
  refine lq_scr (i + 1) 2499 (by omega) (by omega) hl e1 dL_law_2498 rfl ?_
  refine ev_ald4 2501 dL_law_2499 rfl ?_
  refine lh_S (As := [.ref (α 0 0), .int (J p1), .ref (α 91 0)]) 2504 dL_law_2501 lh_304 hw (by decide) rfl rfl (Nat.le_of_ble_eq_true rfl) rfl (fun h α' ν' X1 hT1 hP => ?_)
  obtain ⟨ea, en, hP⟩ := hP
  rw [ea, en] at hT1
  obtain ⟨w, hm⟩ := hp _ _ hT1 hP
  refine ev_ist6 2506 dL_law_2504 rfl (by decide) rfl ?_
  refine ev_ald2 2507 dL_law_2506 rfl ?_
  refine ev_ald0 2508 dL_law_2507 rfl ?_
  refine ev_ild5 2510 dL_law_2508 rfl ?_
  refine tj_iconst 2511 dL_law_2510 rfl ?_
  refine tj_iadd 2512 dL_law_2511 rfl ?_
  refine lq_scr (i + 1) 2513 (by omega) (by omega) hl e1 dL_law_2512 rfl ?_
  refine tm_V1 2516 14 dL_law_2513 lkv_L_306 (tr40 hT1) rfl rfl (by decide) (Nat.le_of_ble_eq_true rfl) hm (fun h X2 hT hq => ?_)
  obtain ⟨q1, q2, hI2⟩ := hq
  have hb := tr40 hT
  have hth := c_X12_thrown hT
  rw [q1] at hth
  refine ev_fstore 2518 dL_law_2516 (ls2 := [some (.ref (gX g).1), some (.ref (α 0 0)), some (.ref (α 40 0)), some (.ref (α 90 0)), some (.ref (α 91 0)), some (.int (J (i : Int))), some (.int (J r)), some (.float w), none]) (by show stL _ 7 _ = _; simp [stL, stG, Value.category, ca2]) (by decide) rfl ?_
  refine ev_ald2 2519 dL_law_2518 rfl ?_
  refine tc_V0 2522 14 dL_law_2519 lkv_L_188 hb rfl rfl (by decide) (Nat.le_of_ble_eq_true rfl) hth ?_
  refine ev_ild6 2524 dL_law_2522 rfl ?_
  refine tj_icmp_eq 2529 2527 dL_law_2524 (by decide) rfl hr31 hr31 (fun _ => ?_) (fun c => absurd rfl c)
  refine ev_ild6 2531 dL_law_2529 rfl ?_
  refine tj_if_ne 2567 2534 dL_law_2531 (by decide) rfl hr31 (fun c0 => ?_) (fun c0 => ?_)
  · skip
    refine ev_goto 3533 dL_law_2567 (by decide) ?_
    exact ev_locals lsL_le (kk _ _ _ _ hf hT hI2)
  · skip
    obtain ⟨q3, q4⟩ := q2 c0
    have q3 : UInt64.ofNat (X2 91 0 0).toNat = FP.f2d w := q3
    have q4 : Jvm.FP.Core.val64 (FP.f2d w) ≠ .nan := q4
    refine ev_ald4 2536 dL_law_2534 rfl ?_
    refine tj_iconst 2537 dL_law_2536 rfl ?_
    refine lq_dald 2538 hT rfl rfl q3 dL_law_2537 rfl ?_
    refine ev_fload (x := w) 2540 dL_law_2538 (by show ldL _ 7 = _; simp [ldL]) rfl ?_
    refine ev_f2d 2541 dL_law_2540 (n64_of q4) rfl ?_
    refine ev_dcmp 2542 dL_law_2541 rfl ?_
    rw [dc_self q4]
    refine tj_if_eq 2567 2545 dL_law_2542 (by decide) rfl R31_0 (fun _ => ?_) (fun c => absurd rfl c)
    refine ev_goto 3533 dL_law_2567 (by decide) ?_
    exact ev_locals lsL_le (kk _ _ _ _ hf hT hI2)
set_option maxRecDepth 100000 in
set_option maxHeartbeats 4000000 in
theorem sg_day {g : Gt} {α : AL} {ν : Nat → Nat → Bool} {X : XM} {h : AH} {k : Int} {i mc ms : Nat} {Q : RT → AH → Prop} (hl : (gX g).2.1 ≤ 2048) (hi : i + 3 < (gX g).2.1) (hT : TR g α ν X h) (hI : INV k ν X) (hk : k ≤ 512) (kk : ∀ α' ν' X' h', FIX α α' → TR g α' ν' X' h' → INV (k + 1) ν' X' → Ev g M_L_law 2048 3533 (lsL g α (i : Int)) [] h' mc ms Q) : Ev g M_L_law 2048 1321 (lsL g α (i : Int)) [] h (28 + mc) (287 + ms) Q := by
  have hT0 := hT
  refine ev_mono (mc := mc) (ms := ms) (by omega) (by omega) ?_
  have hf := FIX.rf α
  refine ev_ald1 1322 dL_law_1321 rfl ?_
  refine tc_V0 1325 13 dL_law_1322 lkv_L_238 (tr0 hT) rfl rfl (by decide) (Nat.le_of_ble_eq_true rfl) (c_X11_day_ok hT hI.1) ?_
  refine ev_ald2 1326 dL_law_1325 rfl ?_
  refine tm_V0 1329 14 dL_law_1326 lkv_L_241 (tr40 hT) rfl rfl (by decide) (Nat.le_of_ble_eq_true rfl) (c_X12_day hT hI.1.1 hI.2.2.1) (fun h X2 hT hq => ?_)
  have hI2 := inv_cz hI (fun _ _ => rfl) (e_x hI.2.2.1 X2 hq)
  refine tj_icmp_eq 3533 1332 dL_law_1329 (by decide) rfl (hT0.rng 0 0 5) (hT0.rng 0 0 5) (fun _ => ?_) (fun c => absurd rfl c)
  exact kk _ _ _ _ hf hT hI2
set_option maxRecDepth 100000 in
set_option maxHeartbeats 4000000 in
theorem sg_term {g : Gt} {α : AL} {ν : Nat → Nat → Bool} {X : XM} {h : AH} {k : Int} {i mc ms : Nat} {Q : RT → AH → Prop} (hl : (gX g).2.1 ≤ 2048) (hi : i + 3 < (gX g).2.1) (hT : TR g α ν X h) (hI : INV k ν X) (hk : k ≤ 512) (kk : ∀ α' ν' X' h', FIX α α' → TR g α' ν' X' h' → INV (k + 1) ν' X' → Ev g M_L_law 2048 3533 (lsL g α (i : Int)) [] h' mc ms Q) : Ev g M_L_law 2048 1334 (lsL g α (i : Int)) [] h (28 + mc) (287 + ms) Q := by
  have hT0 := hT
  refine ev_mono (mc := mc) (ms := ms) (by omega) (by omega) ?_
  have hf := FIX.rf α
  refine ev_ald1 1335 dL_law_1334 rfl ?_
  refine tc_V0 1338 13 dL_law_1335 lkv_L_242 (tr0 hT) rfl rfl (by decide) (Nat.le_of_ble_eq_true rfl) (c_X11_term_ok hT hI.1) ?_
  refine ev_ald2 1339 dL_law_1338 rfl ?_
  refine tm_V0 1342 14 dL_law_1339 lkv_L_245 (tr40 hT) rfl rfl (by decide) (Nat.le_of_ble_eq_true rfl) (c_X12_term hT hI.1.1 hI.2.2.1) (fun h X2 hT hq => ?_)
  have hI2 := inv_cz hI (fun _ _ => rfl) (e_x hI.2.2.1 X2 hq)
  refine tj_icmp_eq 3533 1345 dL_law_1342 (by decide) rfl (hT0.rng 0 0 6) (hT0.rng 0 0 6) (fun _ => ?_) (fun c => absurd rfl c)
  exact kk _ _ _ _ hf hT hI2
set_option maxRecDepth 100000 in
set_option maxHeartbeats 4000000 in
theorem sg_allEarned {g : Gt} {α : AL} {ν : Nat → Nat → Bool} {X : XM} {h : AH} {k : Int} {i mc ms : Nat} {Q : RT → AH → Prop} (hl : (gX g).2.1 ≤ 2048) (hi : i + 3 < (gX g).2.1) (hT : TR g α ν X h) (hI : INV k ν X) (hk : k ≤ 512) (kk : ∀ α' ν' X' h', FIX α α' → TR g α' ν' X' h' → INV (k + 1) ν' X' → Ev g M_L_law 2048 3533 (lsL g α (i : Int)) [] h' mc ms Q) : Ev g M_L_law 2048 2022 (lsL g α (i : Int)) [] h (28 + mc) (287 + ms) Q := by
  refine ev_mono (mc := mc) (ms := ms) (by omega) (by omega) ?_
  have hf := FIX.rf α
  refine ev_ald1 2023 dL_law_2022 rfl ?_
  refine tc_V0 2026 13 dL_law_2023 lkv_L_277 (tr0 hT) rfl rfl (by decide) (Nat.le_of_ble_eq_true rfl) (c_X11_allEarned hT hI.1) ?_
  refine ev_ald2 2027 dL_law_2026 rfl ?_
  refine tm_V0 2030 14 dL_law_2027 lkv_L_281 (tr40 hT) rfl rfl (by decide) (Nat.le_of_ble_eq_true rfl) (c_X12_allEarned hT hI.1.1 hI.2.2.1) (fun h X2 hT hq => ?_)
  have hI2 := inv_cz hI (fun _ _ => rfl) (e_x hI.2.2.1 X2 hq)
  refine ev_lcmp 2031 dL_law_2030 rfl ?_
  rw [lcmp_self]
  refine tj_if_eq 3533 2034 dL_law_2031 (by decide) rfl R31_0 (fun _ => ?_) (fun c => absurd rfl c)
  exact kk _ _ _ _ hf hT hI2
set_option maxRecDepth 100000 in
set_option maxHeartbeats 4000000 in
theorem sg_isSound {g : Gt} {α : AL} {ν : Nat → Nat → Bool} {X : XM} {h : AH} {k : Int} {i mc ms : Nat} {Q : RT → AH → Prop} (hl : (gX g).2.1 ≤ 2048) (hi : i + 3 < (gX g).2.1) (hT : TR g α ν X h) (hI : INV k ν X) (hk : k ≤ 512) (kk : ∀ α' ν' X' h', FIX α α' → TR g α' ν' X' h' → INV (k + 1) ν' X' → Ev g M_L_law 2048 3533 (lsL g α (i : Int)) [] h' mc ms Q) : Ev g M_L_law 2048 3520 (lsL g α (i : Int)) [] h (28 + mc) (287 + ms) Q := by
  have hT0 := hT
  refine ev_mono (mc := mc) (ms := ms) (by omega) (by omega) ?_
  have hf := FIX.rf α
  refine ev_ald1 3521 dL_law_3520 rfl ?_
  refine tm_V0 3524 13 dL_law_3521 lkv_L_352 (tr0 hT) rfl rfl (by decide) (Nat.le_of_ble_eq_true rfl) (c_X11_isSound hT hI.1) (fun h X1 hT hca => ?_)
  refine ev_ald2 3525 dL_law_3524 rfl ?_
  refine tm_V0 3528 14 dL_law_3525 lkv_L_356 (tr40 hT) rfl rfl (by decide) (Nat.le_of_ble_eq_true rfl) (c_X12_isSound hT hI.1.1 (rm_k hI.2.2.1 (fun kk q => hca kk (by omega)))) (fun h X2 hT hq => ?_)
  have hI2 := inv_cz hI (fun kk q => hca kk (by omega)) hq
  refine tj_icmp_eq 3533 3531 dL_law_3528 (by decide) rfl (bi_R _) (bi_R _) (fun _ => ?_) (fun c => absurd rfl c)
  exact kk _ _ _ _ hf hT hI2
