/-! THE CLASS: attempts; the terms to a course -/
section RU8
variable {g : Gt} {α : AL} {ν : Nat → Nat → Bool} {X : XM} {M M2 : Mt} {d d1 pc : Nat} {ls : List (Option Value)} {st : List Value} {h : AH} {mc ms mc1 ms1 : Nat} {Q : RT → AH → Prop}
def VQ (g : Gt) (α : AL) (ν : Nat → Nat → Bool) (E : String) (P : XM → Prop) : RT → AH → Prop := fun r h' => r = .inr E ∧ ∃ X', TR g α ν X' h' ∧ P X'
/-- an exception, and a new memory -/
def Tu (g : Gt) (α : AL) (ν : Nat → Nat → Bool) (M : Mt) (d : Nat) (av : List Value) (h : AH) (E : String) (P : XM → Prop) : Prop := Ct g M d av h 1 6 (VQ g α ν E P)
theorem tu_of {av : List Value} {E : String} {P : XM → Prop} (hp : plainName (mY M).cls = true) (hh : mH M = []) (hls : entL (mL M) av = ls) (hlen : (lg_sl av).length ≤ mL M) (k : Ev g M d 0 ls [] h 1 6 (VQ g α ν E P)) : Tu g α ν M d av h E P := ct_of_ev hp hh hls hlen k
theorem tu_of_th {av : List Value} {E : String} {P : XM → Prop} (hT : TR g α ν X h) (hP : P X) (c : Th g M d av h E) : Tu g α ν M d av h E P :=
  ct_weaken c (fun r h' hq => by obtain ⟨e1, rfl⟩ := hq; exact ⟨e1, X, hT, hP⟩)
theorem tv_alen {a len : Nat} {x : Nat → Int} (n : Nat) (ha : h a = some (ints len x)) (hd : decode (mC M) pc = .ok (.arraylength, 1)) (hn : pc + 1 = n) (kk : Ev g M d n ls (.int (J (len : Int)) :: st) h mc ms Q) : Ev g M d pc ls (.ref a :: st) h mc ms Q := by
  refine ev_alen n ha rfl hd hn ?_
  show Ev g M d n ls (.int (nI len) :: st) h mc ms Q
  rw [J_nI]
  exact kk
end RU8
theorem xw_0 {X : XM} {k i : Nat} {v : Int} : X = xw X k i (fun q => if q < 0 then v else X k i q) := by
  funext k' i'
  by_cases e : k' = k ∧ i' = i
  · obtain ⟨rfl, rfl⟩ := e
    rw [xw_at]
    funext q
    rw [if_neg (Nat.not_lt_zero q)]
  · rw [xw_ne e]
theorem xw_s {X : XM} {k i j : Nat} {v : Int} : xs (xw X k i (fun q => if q < j then v else X k i q)) k i j v = xw X k i (fun q => if q < j + 1 then v else X k i q) := by
  funext k' i'
  by_cases e : k' = k ∧ i' = i
  · obtain ⟨rfl, rfl⟩ := e
    rw [xs_fn, xw_at, xw_at]
    funext q
    by_cases e2 : q = j
    · subst e2; rw [if_pos rfl, if_pos (Nat.lt_succ_self q)]
    · rw [if_neg e2]
      by_cases e3 : q < j
      · rw [if_pos e3, if_pos (by omega)]
      · rw [if_neg e3, if_neg (by omega)]
  · rw [xs_ne e, xw_ne e, xw_ne e]
set_option maxRecDepth 100000 in
set_option maxHeartbeats 4000000 in
theorem fill_c {g : Gt} {α : AL} {ν : Nat → Nat → Bool} {X : XM} {h : AH} (hT : TR g α ν X h) {k i L : Nat} (hv : vk ν k i = true) (hk : ∀ x, cellK g α k i x = ints L x) (hL : L < 2147483648) {v : Int} (hr : R31 v) : Mu g α ν M_J7_fill_53178 0 [.ref (α k i), .int (J v)] h (none) (fun X' => X' = xw X k i (fun j => if j < L then v else X k i j)) := by
  refine mu_of rfl rfl (ls := [some (.ref (α k i)), some (.int (J v)), none, none]) rfl (Nat.le_of_ble_eq_true rfl) ?_
  show Ev g M_J7_fill_53178 0 0 [some (.ref (α k i)), some (.int (J v)), none, none] [] h 0 0 (UQ g α ν (none) (fun X' => X' = xw X k i (fun j => if j < L then v else X k i j)))
  refine tj_iconst 1 dJ7_fill_53178_0 rfl ?_
  refine ev_ist2 2 dJ7_fill_53178_1 rfl (by decide) rfl ?_
  refine ev_ald0 3 dJ7_fill_53178_2 rfl ?_
  refine tv_alen 4 ((hT.is hv (hk _)).1) dJ7_fill_53178_3 rfl ?_
  refine ev_ist3 5 dJ7_fill_53178_4 rfl (by decide) rfl ?_
  have lp5 : ∀ (n5 : Nat) (j : Nat) (z2 : Int)  (h : AH) (X2 : XM), L + 1 - j < n5 → (j ≤ L) → z2 = (j : Int) → TR g α ν X2 h → X2 = xw X k i (fun q => if q < j then v else X k i q) → Ev g M_J7_fill_53178 0 5 [some (.ref (α k i)), some (.int (J v)), some (.int (J z2)), some (.int (J (L : Int)))] [] h 0 0 (UQ g α ν (none) (fun X' => X' = xw X k i (fun j => if j < L then v else X k i j))) := by
    intro n5
    induction n5 with
    | zero => intro j z2 h X2 hm; exact absurd hm (Nat.not_lt_zero _)
    | succ n5 ih5 =>
      intro j z2 h X2 hm5 hj e2 hT hI
      subst e2
      refine ev_ild2 6 dJ7_fill_53178_5 rfl ?_
      refine ev_ild3 7 dJ7_fill_53178_6 rfl ?_
      refine tj_icmp_ge 20 10 dJ7_fill_53178_7 (by decide) rfl (by first | exact TR.rng hT _ _ _ | exact R31_of _ | exact bi_R _ | (constructor <;> omega)) (by first | exact TR.rng hT _ _ _ | exact R31_of _ | exact bi_R _ | (constructor <;> omega)) (fun c7 => ?_) (fun c7 => ?_)
      · skip
        exact ev_vreturn (uq_v hT (by show X2 = _; rw [hI, show j = L by omega])) rfl dJ7_fill_53178_20
      · skip
        refine ev_ald0 11 dJ7_fill_53178_10 rfl ?_
        refine ev_ild2 12 dJ7_fill_53178_11 rfl ?_
        refine ev_ild1 13 dJ7_fill_53178_12 rfl ?_
        refine tv_iast 14 hT hv hk (j) (by omega) (by omega) (by omega) (by first | exact TR.rng hT _ _ _ | exact R31_of _ | exact bi_R _ | (constructor <;> omega)) dJ7_fill_53178_13 rfl (fun h hT => ?_)
        refine tj_inc2 17 dJ7_fill_53178_14 rfl (by decide) rfl ?_
        refine ev_goto 5 dJ7_fill_53178_17 (by decide) ?_
        exact ih5 (j + 1) _ _ _ (by omega) (by first | omega | assumption | omega) (by first | rfl | omega | (omega)) hT (by first | assumption | (first | exact xw_0 | (rw [hI]; exact xw_s)))
  exact lp5 _ (0) _ _ _ (Nat.lt_succ_self _) (by first | omega | assumption | omega) (by first | rfl | omega | (omega)) hT (by first | assumption | (first | exact xw_0 | (rw [hI]; exact xw_s)))
set_option maxRecDepth 100000 in
set_option maxHeartbeats 4000000 in
theorem c_X8_forgetRecord {g : Gt} {α : AL} {ν : Nat → Nat → Bool} {X : XM} {h : AH} (hT : TR g α ν X h) {s : Nat} (hs : ν 4 s = true) (hl : s < 17) : Mu g α ν M_X8_forgetRecord 1 [.ref (α 4 s)] h (none) (fun X' => X' = xw (xw X 9 s (fun j => if j < 20 then 0 else X 9 s j)) 8 s (fun j => if j < 20 then -1 else X 8 s j)) := by
  refine mu_of rfl rfl (ls := [some (.ref (α 4 s))]) rfl (Nat.le_of_ble_eq_true rfl) ?_
  show Ev g M_X8_forgetRecord 1 0 [some (.ref (α 4 s))] [] h 0 0 (UQ g α ν (none) (fun X' => X' = xw (xw X 9 s (fun j => if j < 20 then 0 else X 9 s j)) 8 s (fun j => if j < 20 then -1 else X 8 s j)))
  refine ev_ald0 1 dX8_forgetRecord_0 rfl ?_
  refine ev_getfield 4 10 5 fl_X8_25_10 (tr4 hT (by first | assumption | exact wx_stu hW (by omega) | exact wx_crs hW (by omega) | exact wx_new hW) (by omega)) rfl dX8_forgetRecord_1 rfl ?_
  refine tj_iconst 5 dX8_forgetRecord_4 rfl ?_
  refine tmv_S2 8 dX8_forgetRecord_5 lks_X8_37 rfl (by first | decide | omega) (Nat.le_of_ble_eq_true rfl) (fill_c hT (tv9 hT hs hl) (fun _ => rfl) (by omega) R31_0) (fun h X1 hT hP5 => ?_)
  have hX1 := hP5
  refine ev_ald0 9 dX8_forgetRecord_8 rfl ?_
  refine ev_getfield 12 10 4 fl_X8_22_10 (tr4 hT (by first | assumption | exact wx_stu hW (by omega) | exact wx_crs hW (by omega) | exact wx_new hW) (by omega)) rfl dX8_forgetRecord_9 rfl ?_
  refine tj_iconst 13 dX8_forgetRecord_12 rfl ?_
  refine tmv_S2 16 dX8_forgetRecord_13 lks_X8_37 rfl (by first | decide | omega) (Nat.le_of_ble_eq_true rfl) (fill_c hT (tv8 hT hs hl) (fun _ => rfl) (by omega) (by constructor <;> omega)) (fun h X1 hT hP13 => ?_)
  exact ev_vreturn (uq_v hT (by show _ = _; rw [hP13, hP5, show xw X 9 s (fun j => if j < 20 then 0 else X 9 s j) 8 s = X 8 s from xw_ne (by omega)])) rfl dX8_forgetRecord_16
/-- one more attempt -/
def aa (X : XM) (s c : Nat) (m : Int) : XM := if X 9 s c < 3 then xs (xs (xs X 11 (20 * s + c) (X 9 s c).toNat m) 9 s c (X 9 s c + 1)) 8 s c (if X 8 s c < m then m else X 8 s c) else X
set_option maxRecDepth 100000 in
set_option maxHeartbeats 4000000 in
theorem c_X8_addAttempt {g : Gt} {α : AL} {ν : Nat → Nat → Bool} {X : XM} {h : AH} (hT : TR g α ν X h) {s : Nat} (hs : ν 4 s = true) (hl : s < 17) {c : Nat} (hc : c < 20) {m : Int} (hm : R31 m) (ht : 0 ≤ X 9 s c) : Mu g α ν M_X8_addAttempt 1 [.ref (α 4 s), .int (J (c : Int)), .int (J m)] h (none) (fun X' => X' = aa X s c m) := by
  refine mu_of rfl rfl (ls := [some (.ref (α 4 s)), some (.int (J (c : Int))), some (.int (J m)), none]) rfl (Nat.le_of_ble_eq_true rfl) ?_
  show Ev g M_X8_addAttempt 1 0 [some (.ref (α 4 s)), some (.int (J (c : Int))), some (.int (J m)), none] [] h 0 0 (UQ g α ν (none) (fun X' => X' = aa X s c m))
  have r8 := TR.rng hT 8 s c
  have hs11 : ν 4 ((20 * s + c) / 20) = true := by rw [show (20 * s + c) / 20 = s by omega]; exact hs
  refine ev_ald0 1 dX8_addAttempt_0 rfl ?_
  refine ev_getfield 4 10 5 fl_X8_25_10 (tr4 hT (by first | assumption | exact wx_stu hW (by omega) | exact wx_crs hW (by omega) | exact wx_new hW) (by omega)) rfl dX8_addAttempt_1 rfl ?_
  refine ev_ild1 5 dX8_addAttempt_4 rfl ?_
  refine tv_iald 6 (tr9 hT (by first | assumption | exact wx_stu hW (by omega) | exact wx_crs hW (by omega) | exact wx_new hW) (by omega)) (c) (by omega) (by omega) (by omega) dX8_addAttempt_5 rfl ?_
  refine ev_ist3 7 dX8_addAttempt_6 rfl (by decide) rfl ?_
  refine ev_ild3 8 dX8_addAttempt_7 rfl ?_
  refine tj_iconst 9 dX8_addAttempt_8 rfl ?_
  refine tj_icmp_ge 46 12 dX8_addAttempt_9 (by decide) rfl (by first | exact TR.rng hT _ _ _ | exact R31_of _ | exact bi_R _ | (constructor <;> omega)) (by first | exact TR.rng hT _ _ _ | exact R31_of _ | exact bi_R _ | (constructor <;> omega)) (fun c9 => ?_) (fun c9 => ?_)
  · skip
    exact ev_vreturn (uq_v hT (by first | (show _ = aa X s c m; rw [aa, if_pos (show X 9 s c < 3 by omega), hX4, hX3]) | (show _ = aa X s c m; rw [aa, if_neg (show ¬ X 9 s c < 3 by omega)]))) rfl dX8_addAttempt_46
  · skip
    refine ev_ald0 13 dX8_addAttempt_12 rfl ?_
    refine ev_getfield 16 10 6 fl_X8_30_10 (tr4 hT (by first | assumption | exact wx_stu hW (by omega) | exact wx_crs hW (by omega) | exact wx_new hW) (by omega)) rfl dX8_addAttempt_13 rfl ?_
    refine ev_ild1 17 dX8_addAttempt_16 rfl ?_
    refine tv_aald4 18 (tr10 hT (by first | assumption | exact wx_stu hW (by omega) | exact wx_crs hW (by omega) | exact wx_new hW) (by omega)) (c) (by omega) (by omega) (by omega) (if_pos hc) dX8_addAttempt_17 rfl ?_
    refine ev_ild3 19 dX8_addAttempt_18 rfl ?_
    refine ev_ild2 20 dX8_addAttempt_19 rfl ?_
    refine tv_iast 21 hT (tv11 hT (by first | assumption | exact wx_stu hW (by omega) | exact wx_crs hW (by omega) | exact wx_new hW) (by omega)) (fun _ => rfl) ((X 9 s c).toNat) (by omega) (by omega) (by omega) (by first | exact TR.rng hT _ _ _ | exact R31_of _ | exact bi_R _ | (constructor <;> omega)) dX8_addAttempt_20 rfl (fun h hT => ?_)
    obtain ⟨X3, hX3⟩ : ∃ Z, Z = xs X 11 (20 * s + c) (X 9 s c).toNat m := ⟨_, rfl⟩
    rw [← hX3] at hT
    refine ev_ald0 22 dX8_addAttempt_21 rfl ?_
    refine ev_getfield 25 10 5 fl_X8_25_10 (tr4 hT (by first | assumption | exact wx_stu hW (by omega) | exact wx_crs hW (by omega) | exact wx_new hW) (by omega)) rfl dX8_addAttempt_22 rfl ?_
    refine ev_ild1 26 dX8_addAttempt_25 rfl ?_
    refine ev_ild3 27 dX8_addAttempt_26 rfl ?_
    refine tj_iconst 28 dX8_addAttempt_27 rfl ?_
    refine tj_iadd 29 dX8_addAttempt_28 rfl ?_
    refine tv_iast 30 hT (tv9 hT (by first | assumption | exact wx_stu hW (by omega) | exact wx_crs hW (by omega) | exact wx_new hW) (by omega)) (fun _ => rfl) (c) (by omega) (by omega) (by omega) (by first | exact TR.rng hT _ _ _ | exact R31_of _ | exact bi_R _ | (constructor <;> omega)) dX8_addAttempt_29 rfl (fun h hT => ?_)
    obtain ⟨X4, hX4⟩ : ∃ Z, Z = xs X3 9 s c (X 9 s c + 1) := ⟨_, rfl⟩
    rw [← hX4] at hT
    have e8 : X4 8 = X 8 := by rw [hX4, hX3, xs_nk (by decide), xs_nk (by decide)]
    refine ev_ald0 31 dX8_addAttempt_30 rfl ?_
    refine ev_getfield 34 10 4 fl_X8_22_10 (tr4 hT (by first | assumption | exact wx_stu hW (by omega) | exact wx_crs hW (by omega) | exact wx_new hW) (by omega)) rfl dX8_addAttempt_31 rfl ?_
    refine ev_ild1 35 dX8_addAttempt_34 rfl ?_
    refine ev_ald0 36 dX8_addAttempt_35 rfl ?_
    refine ev_getfield 39 10 4 fl_X8_22_10 (tr4 hT (by first | assumption | exact wx_stu hW (by omega) | exact wx_crs hW (by omega) | exact wx_new hW) (by omega)) rfl dX8_addAttempt_36 rfl ?_
    refine ev_ild1 40 dX8_addAttempt_39 rfl ?_
    refine tv_iald 41 (tr8 hT (by first | assumption | exact wx_stu hW (by omega) | exact wx_crs hW (by omega) | exact wx_new hW) (by omega)) (c) (by omega) (by omega) (by omega) dX8_addAttempt_40 rfl ?_
    rw [e8]
    refine ev_ild2 42 dX8_addAttempt_41 rfl ?_
    refine tj_mmax 45 dX8_addAttempt_42 mmax_X8_43 (by decide) (Nat.le_of_ble_eq_true rfl) rfl (by first | exact TR.rng hT _ _ _ | exact R31_of _ | exact bi_R _ | (constructor <;> omega)) (by first | exact TR.rng hT _ _ _ | exact R31_of _ | exact bi_R _ | (constructor <;> omega)) ?_
    refine tv_iast 46 hT (tv8 hT (by first | assumption | exact wx_stu hW (by omega) | exact wx_crs hW (by omega) | exact wx_new hW) (by omega)) (fun _ => rfl) (c) (by omega) (by omega) (by omega) (by first | exact TR.rng hT _ _ _ | exact R31_of _ | exact bi_R _ | (constructor <;> omega)) dX8_addAttempt_45 rfl (fun h hT => ?_)
    exact ev_vreturn (uq_v hT (by first | (show _ = aa X s c m; rw [aa, if_pos (show X 9 s c < 3 by omega), hX4, hX3]) | (show _ = aa X s c m; rw [aa, if_neg (show ¬ X 9 s c < 3 by omega)]))) rfl dX8_addAttempt_46
theorem NWC_cg {X Y : XM} {f f' : Nat → Int} (h : NWC X f Y) (hf : ∀ c, c < 20 → (f c ≠ 0 ↔ f' c ≠ 0)) : NWC X f' Y := by
  obtain ⟨a1, a2, a3, a4, a5, a6⟩ := h
  refine ⟨a1, a2, a3, a4, fun c hc => ?_, fun c hc => ?_⟩
  · rw [a5 c hc]
    by_cases e : f c = 0
    · rw [if_neg (fun z => z e), if_neg (fun z => (hf c hc).mpr z e)]
    · rw [if_pos e, if_pos ((hf c hc).mp e)]
  · rw [a6 c hc]
    by_cases e : f c = 0
    · rw [if_neg (fun z => z e), if_neg (fun z => (hf c hc).mpr z e)]
    · rw [if_pos e, if_pos ((hf c hc).mp e)]
theorem NWC_aa {X Y : XM} {f f' : Nat → Int} (h : NWC X f Y) {c : Nat} (hc : c < 20) (h0 : f c = 0) (h1 : f' c ≠ 0) (hf : ∀ j, j ≠ c → (f j ≠ 0 ↔ f' j ≠ 0)) : NWC X f' (aa Y 16 c 100) := by
  obtain ⟨a1, a2, a3, a4, a5, a6⟩ := h
  have e9 : Y 9 16 c = 0 := by rw [a6 c hc, if_neg (fun z => z h0)]
  have e8 : Y 8 16 c = -1 := by rw [a5 c hc, if_neg (fun z => z h0)]
  unfold aa
  rw [if_pos (show Y 9 16 c < 3 by omega), e9, e8]
  refine ⟨fun k h8 h9 h11 => ?_, fun i hi => ?_, fun i hi => ?_, fun i hi => ?_, fun j hj => ?_, fun j hj => ?_⟩
  · rw [xs_nk h8, xs_nk h9, xs_nk h11]; exact a1 k h8 h9 h11
  · rw [xs_ne (by omega), xs_nk (by decide), xs_nk (by decide)]; exact a2 i hi
  · rw [xs_nk (by decide), xs_ne (by omega), xs_nk (by decide)]; exact a3 i hi
  · rw [xs_nk (by decide), xs_nk (by decide), xs_ne (by omega)]; exact a4 i hi
  · rw [xs_at]
    by_cases e : j = c
    · subst e; rw [if_pos rfl, if_pos h1]; decide
    · rw [if_neg e, xs_nk (by decide), xs_nk (by decide), a5 j hj]
      by_cases q : f j = 0
      · rw [if_neg (fun z => z q), if_neg (fun z => (hf j e).mpr z q)]
      · rw [if_pos q, if_pos ((hf j e).mp q)]
  · rw [xs_nk (by decide), xs_at]
    by_cases e : j = c
    · subst e; rw [if_pos rfl, if_pos h1]; rfl
    · rw [if_neg e, xs_nk (by decide), a6 j hj]
      by_cases q : f j = 0
      · rw [if_neg (fun z => z q), if_neg (fun z => (hf j e).mpr z q)]
      · rw [if_pos q, if_pos ((hf j e).mp q)]
/-- of the courses below c those of the next term, of the others those of this -/
def fP (X : XM) (t c : Nat) : Nat → Int := fun j => if j < c then nfS X (t + 1) j else nfS X t j
theorem nw_psd {X Y : XM} {f : Nat → Int} (h : NWC X f Y) {c : Nat} (hc : c < 20) : psd Y 16 c = decide (f c ≠ 0) := by
  unfold psd
  rw [h.2.2.2.2.1 c hc]
  by_cases e : f c = 0
  · rw [if_neg (fun z => z e), decide_eq_false (by omega), decide_eq_false (fun z => z e)]
  · rw [if_pos e, decide_eq_true (by omega), decide_eq_true e]
theorem fP_c (X : XM) (t c : Nat) : fP X t c c = nfS X t c := if_neg (Nat.lt_irrefl c)
theorem fP_at (X : XM) (t c : Nat) : fP X t (c + 1) c = nfS X (t + 1) c := if_pos (Nat.lt_succ_self c)
theorem fP_o (X : XM) (t c : Nat) {j : Nat} (hj : j ≠ c) : fP X t (c + 1) j = fP X t c j := by
  unfold fP
  by_cases e : j < c
  · rw [if_pos e, if_pos (by omega)]
  · rw [if_neg e, if_neg (by omega)]
theorem fP_k {X Y : XM} {t c : Nat} (h : NWC X (fP X t c) Y) (hk : nfS X t c ≠ 0 ↔ nfS X (t + 1) c ≠ 0) : NWC X (fP X t (c + 1)) Y :=
  NWC_cg h (fun j _ => by
    by_cases e : j = c
    · subst e; rw [fP_c, fP_at]; exact hk
    · rw [fP_o X t c e])
theorem fP_a {X Y : XM} {t c : Nat} (hc : c < 20) (h : NWC X (fP X t c) Y) (h0 : nfS X t c = 0) (h1 : nfS X (t + 1) c ≠ 0) : NWC X (fP X t (c + 1)) (aa Y 16 c 100) :=
  NWC_aa h hc (by rw [fP_c]; exact h0) (by rw [fP_at]; exact h1) (fun j hj => by rw [fP_o X t c hj])
theorem fP_e {X Y : XM} {t : Nat} (h : NWC X (fP X t (nC X).toNat) Y) : NWC X (nfS X (t + 1)) Y :=
  NWC_cg h (fun j _ => by
    unfold fP
    by_cases e : j < (nC X).toNat
    · rw [if_pos e]
    · rw [if_neg e, nfS_far (by omega), nfS_far (by omega)])
theorem nw_met {g : Gt} {h : AH} {X Y : XM} {f : Nat → Int} (hO : WO X) (hY : NWC X f Y) (h5 : ∀ c, c < 20 → X 5 16 c = 0) {c : Nat} (hc : (c : Int) < nC X) : Pr g M_X11_isMet 0 [.int (J (X 12 c 5)), .long (truS Y 16)] h (some (.int (J (bi (mayN X f c))))) := by
  have hF := wo_nF hO
  have hr := wo_req hO c hc
  have k := c_X11_isMet (g := g) (h := h) (y := X 12 c 5) (T := truS Y 16) (by omega)
  have e1 : Y 1 = X 1 := hY.1 1 (by decide) (by decide) (by decide)
  unfold mayN
  by_cases e : X 12 c 5 = -1
  · rw [decide_eq_true e, Bool.true_or] at k ⊢
    exact k
  · rw [lb_S (wo_nw hO hY) 16 (f := (X 12 c 5).toNat) (by unfold nF; rw [e1]; show _ < nF X; omega), nw_hol hO hY h5 (by omega)] at k
    exact k
set_option maxRecDepth 100000 in
set_option maxHeartbeats 4000000 in
theorem c_X11_studyOneTerm {g : Gt} {α : AL} {ν : Nat → Nat → Bool} {X : XM} {h : AH} {Y : XM} (hT : TR g α ν Y h) (hW0 : WX ν X) {t : Nat} (hY : NWC X (nfS X t) Y) (h5 : ∀ c, c < 20 → X 5 16 c = 0) : Mu g α ν M_X11_studyOneTerm 5 [.ref (α 0 0), .ref (α 4 16)] h (none) (fun Y' => NWC X (nfS X (t + 1)) Y') := by
  refine mu_of rfl rfl (ls := [some (.ref (α 0 0)), some (.ref (α 4 16)), none, none, none]) rfl (Nat.le_of_ble_eq_true rfl) ?_
  show Ev g M_X11_studyOneTerm 5 0 [some (.ref (α 0 0)), some (.ref (α 4 16)), none, none, none] [] h 0 0 (UQ g α ν (none) (fun Y' => NWC X (nfS X (t + 1)) Y'))
  have hO := hW0.1
  have hW := wx_nw hW0 hY
  have hs := wx_new hW
  have hl : 16 < 17 := by omega
  have q9 := wo_nC hO
  refine ev_ald0 1 dX11_studyOneTerm_0 rfl ?_
  refine ev_ald1 2 dX11_studyOneTerm_1 rfl ?_
  refine tc_V1 5 13 dX11_studyOneTerm_2 lkv_X11_167 (tr0 hT) rfl rfl (by first | decide | omega) (Nat.le_of_ble_eq_true rfl) (c_X11_truthsFor hT hW (by first | assumption | exact wx_stu hW (by omega)) (by omega)) ?_
  refine ev_lst2 6 dX11_studyOneTerm_5 rfl (by decide) rfl ?_
  refine tj_iconst 7 dX11_studyOneTerm_6 rfl ?_
  refine ev_ist4 9 dX11_studyOneTerm_7 rfl (by decide) rfl ?_
  have lp9 : ∀ (n9 : Nat) (c : Nat) (z4 : Int)  (h : AH) (X2 : XM), 21 - c < n9 → ((c : Int) ≤ nC X) → z4 = (c : Int) → TR g α ν X2 h → NWC X (fP X t c) X2 → Ev g M_X11_studyOneTerm 5 9 [some (.ref (α 0 0)), some (.ref (α 4 16)), some (.long (truS Y 16)), none, some (.int (J z4))] [] h 0 0 (UQ g α ν (none) (fun Y' => NWC X (nfS X (t + 1)) Y')) := by
    intro n9
    induction n9 with
    | zero => intro c z4 h X2 hm; exact absurd hm (Nat.not_lt_zero _)
    | succ n9 ih9 =>
      intro c z4 h X2 hm9 hc e4 hT hI
      subst e4
      have hW := wx_nw hW0 hI
      have e1 : X2 1 = X 1 := hI.1 1 (by decide) (by decide) (by decide)
      have e12 : X2 12 = X 12 := hI.1 12 (by decide) (by decide) (by decide)
      have q1 : X2 1 0 2 = nC X := by rw [e1]
      have q2 : nC X2 = nC X := by unfold nC; rw [e1]
      refine ev_ild4 11 dX11_studyOneTerm_9 rfl ?_
      refine ev_ald0 12 dX11_studyOneTerm_11 rfl ?_
      refine ev_getfield 15 13 0 fl_X11_12_13 (tr0 hT) rfl dX11_studyOneTerm_12 rfl ?_
      refine tc_V0 18 2 dX11_studyOneTerm_15 lkv_X11_70 (tr1_0 hT) rfl rfl (by first | decide | omega) (Nat.le_of_ble_eq_true rfl) (z_C hT hW) ?_
      refine tj_icmp_ge 66 21 dX11_studyOneTerm_18 (by decide) rfl (by first | exact TR.rng hT _ _ _ | exact R31_of _ | exact bi_R _ | (constructor <;> omega)) (by first | exact TR.rng hT _ _ _ | exact R31_of _ | exact bi_R _ | (constructor <;> omega)) (fun c18 => ?_) (fun c18 => ?_)
      · skip
        obtain rfl : c = (nC X).toNat := by omega
        exact ev_vreturn (uq_v hT (by exact fP_e hI)) rfl dX11_studyOneTerm_66
      · skip
        have hc2 : (c : Int) < nC X := by omega
        have ep := nw_psd hI (c := c) (by omega)
        rw [fP_c] at ep
        refine ev_ald1 22 dX11_studyOneTerm_21 rfl ?_
        refine ev_ild4 24 dX11_studyOneTerm_22 rfl ?_
        refine tc_V1 27 10 dX11_studyOneTerm_24 lkv_X11_283 (tr4 hT (by first | assumption | exact wx_stu hW (by omega) | exact wx_crs hW (by omega) | exact wx_new hW) (by omega)) rfl rfl (by first | decide | omega) (Nat.le_of_ble_eq_true rfl) (c_X8_hasPassed hT hs hl (by omega)) ?_
        refine tb_if_ne 60 30 dX11_studyOneTerm_27 (by decide) rfl (fun c27 => ?_) (fun c27 => ?_)
        · skip
          have p0 : nfS X t c ≠ 0 := of_decide_eq_true (ep.symm.trans c27)
          have hI1 := fP_k hI ⟨fun _ => nfS_m p0, fun _ => p0⟩
          refine tj_inc4 63 dX11_studyOneTerm_60 rfl (by decide) rfl ?_
          refine ev_goto 9 dX11_studyOneTerm_63 (by decide) ?_
          exact ih9 (c + 1) _ _ _ (by omega) (by first | omega | assumption | omega) (by first | rfl | omega | (omega)) hT (by first | assumption | (first | exact NWC_cg hY (fun j _ => by unfold fP; rw [if_neg (Nat.not_lt_zero j)]) | exact hI1))
        · skip
          have p0 : nfS X t c = 0 := by simpa using ep.symm.trans c27
          refine ev_ald0 31 dX11_studyOneTerm_30 rfl ?_
          refine ev_getfield 34 13 0 fl_X11_12_13 (tr0 hT) rfl dX11_studyOneTerm_31 rfl ?_
          refine ev_ild4 36 dX11_studyOneTerm_34 rfl ?_
          refine tc_V1 39 2 dX11_studyOneTerm_36 lkv_X11_276 (tr1_0 hT) rfl rfl (by first | decide | omega) (Nat.le_of_ble_eq_true rfl) (g_C hT hW (by omega)) ?_
          refine ev_castS 42 dX11_studyOneTerm_39 cl_X11_79 (tr12 hT (by first | assumption | exact wx_stu hW (by omega) | exact wx_crs hW (by omega) | exact wx_new hW)) rfl rfl ?_
          refine ev_getfield 45 5 5 fl_X11_175_5 (tr12 hT (by first | assumption | exact wx_stu hW (by omega) | exact wx_crs hW (by omega) | exact wx_new hW)) rfl dX11_studyOneTerm_42 rfl ?_
          rw [e12]
          refine ev_lld2 46 dX11_studyOneTerm_45 rfl ?_
          refine tc_S2 49 dX11_studyOneTerm_46 lks_X11_171 rfl (by first | decide | omega) (Nat.le_of_ble_eq_true rfl) (nw_met hO hY h5 (by omega)) ?_
          refine tb_if_eq 60 52 dX11_studyOneTerm_49 (by decide) rfl (fun c49 => ?_) (fun c49 => ?_)
          · skip
            have hI1 := fP_k hI ⟨fun z => absurd p0 z, fun z => absurd (nfS_2 p0 c49) z⟩
            refine tj_inc4 63 dX11_studyOneTerm_60 rfl (by decide) rfl ?_
            refine ev_goto 9 dX11_studyOneTerm_63 (by decide) ?_
            exact ih9 (c + 1) _ _ _ (by omega) (by first | omega | assumption | omega) (by first | rfl | omega | (omega)) hT (by first | assumption | (first | exact NWC_cg hY (fun j _ => by unfold fP; rw [if_neg (Nat.not_lt_zero j)]) | exact hI1))
          · skip
            have ht0 : 0 ≤ X2 9 16 c := by rw [hI.2.2.2.2.2 c (by omega)]; split <;> omega
            refine ev_ald1 53 dX11_studyOneTerm_52 rfl ?_
            refine ev_ild4 55 dX11_studyOneTerm_53 rfl ?_
            refine tj_bipush 57 dX11_studyOneTerm_55 (by decide) rfl ?_
            refine tmv_V2 60 10 dX11_studyOneTerm_57 lkv_X11_422 (tr4 hT (by first | assumption | exact wx_stu hW (by omega) | exact wx_crs hW (by omega) | exact wx_new hW) (by omega)) rfl rfl (by first | decide | omega) (Nat.le_of_ble_eq_true rfl) (c_X8_addAttempt hT hs hl (by omega) (by constructor <;> omega) ht0) (fun h X1 hT hP57 => ?_)
            have hI1 : NWC X (fP X t (c + 1)) X1 := by rw [hP57]; exact fP_a (by omega) hI p0 (nfS_1 hc2 c49)
            refine tj_inc4 63 dX11_studyOneTerm_60 rfl (by decide) rfl ?_
            refine ev_goto 9 dX11_studyOneTerm_63 (by decide) ?_
            exact ih9 (c + 1) _ _ _ (by omega) (by first | omega | assumption | omega) (by first | rfl | omega | (omega)) hT (by first | assumption | (first | exact NWC_cg hY (fun j _ => by unfold fP; rw [if_neg (Nat.not_lt_zero j)]) | exact hI1))
  exact lp9 _ (0) _ _ _ (Nat.lt_succ_self _) (by first | omega | assumption | omega) (by first | rfl | omega | (omega)) hT (by first | assumption | (first | exact NWC_cg hY (fun j _ => by unfold fP; rw [if_neg (Nat.not_lt_zero j)]) | exact hI1))
theorem NWC_0 {X : XM} : NWC X (nfS X 0) (xw (xw X 9 16 (fun j => if j < 20 then 0 else X 9 16 j)) 8 16 (fun j => if j < 20 then -1 else X 8 16 j)) := by
  refine ⟨fun k h8 h9 h11 => ?_, fun i hi => ?_, fun i hi => ?_, fun i hi => ?_, fun j hj => ?_, fun j hj => ?_⟩
  · funext i; rw [xw_ne (fun z => h8 z.1), xw_ne (fun z => h9 z.1)]
  · rw [xw_ne (fun z => hi z.2), xw_ne (by omega)]
  · rw [xw_ne (by omega), xw_ne (fun z => hi z.2)]
  · rw [xw_ne (by omega), xw_ne (by omega)]
  · rw [xw_at, if_pos hj, if_neg (fun z => z rfl)]
  · rw [xw_ne (by omega), xw_at, if_pos hj, if_neg (fun z => z rfl)]
set_option maxRecDepth 100000 in
set_option maxHeartbeats 4000000 in
theorem c_X11_termsTo_b1 {g : Gt} {α : AL} {ν : Nat → Nat → Bool} {X : XM} {h : AH} (hT : TR g α ν X h) (hW : WX ν X) {b : Int} (hb : R31 b) (hn : ¬ (0 ≤ b ∧ b < nC X)) : Th g M_X11_termsTo 28 [.ref (α 0 0), .int (J b)] h "java/lang/IndexOutOfBoundsException" := by
  refine th_of rfl rfl (ls := [some (.ref (α 0 0)), some (.int (J b)), none]) rfl (Nat.le_of_ble_eq_true rfl) ?_
  show Ev g M_X11_termsTo 28 0 [some (.ref (α 0 0)), some (.int (J b)), none] [] h 1 6 (TQ "java/lang/IndexOutOfBoundsException" h)
  have q1 := wo_nC hW.1
  have q3 := wo_nS hW.1
  refine ev_ald0 1 dX11_termsTo_0 rfl ?_
  refine ev_ild1 2 dX11_termsTo_1 rfl ?_
  exact tx_V1 5 13 dX11_termsTo_2 lkv_X11_104 (tr0 hT) rfl rfl (by first | decide | omega) (Nat.le_of_ble_eq_true rfl) rfl (by decide) (by decide) (c_X11_courseAt_no hT hW hb hn) ⟨rfl, rfl⟩
set_option maxRecDepth 100000 in
set_option maxHeartbeats 4000000 in
theorem c_X11_termsTo_x2 {g : Gt} {α : AL} {ν : Nat → Nat → Bool} {X : XM} {h : AH} (hT : TR g α ν X h) (hW : WX ν X) {c : Nat} (hc : (c : Int) < nC X) (h5 : ∀ c, c < 20 → X 5 16 c = 0) (hb : tt X c 20 = -1) : Tu g α ν M_X11_termsTo 28 [.ref (α 0 0), .int (J (c : Int))] h "java/util/NoSuchElementException" (fun X' => ∃ t, NWC X (nfS X t) X') := by
  refine tu_of rfl rfl (ls := [some (.ref (α 0 0)), some (.int (J (c : Int))), none]) rfl (Nat.le_of_ble_eq_true rfl) ?_
  show Ev g M_X11_termsTo 28 0 [some (.ref (α 0 0)), some (.int (J (c : Int))), none] [] h 1 6 (VQ g α ν "java/util/NoSuchElementException" (fun X' => ∃ t, NWC X (nfS X t) X'))
  have q1 := wo_nC hW.1
  have q3 := wo_nS hW.1
  have hW0 := hW
  have hO := hW.1
  have hs := wx_new hW
  have hl : 16 < 17 := by omega
  refine ev_ald0 1 dX11_termsTo_0 rfl ?_
  refine ev_ild1 2 dX11_termsTo_1 rfl ?_
  refine tc_V1 5 13 dX11_termsTo_2 lkv_X11_104 (tr0 hT) rfl rfl (by first | decide | omega) (Nat.le_of_ble_eq_true rfl) (c_X11_courseAt_ok hT hW (by omega)) ?_
  refine ev_pop 6 dX11_termsTo_5 rfl rfl ?_
  refine ev_ald0 7 dX11_termsTo_6 rfl ?_
  refine ev_getfield 10 13 7 fl_X11_34_13 (tr0 hT) rfl dX11_termsTo_7 rfl ?_
  refine tmv_V0 13 10 dX11_termsTo_10 lkv_X11_323 (tr4 hT (by first | assumption | exact wx_stu hW (by omega) | exact wx_crs hW (by omega) | exact wx_new hW) (by omega)) rfl rfl (by first | decide | omega) (Nat.le_of_ble_eq_true rfl) (c_X8_forgetRecord hT (wx_new hW) (by omega)) (fun h X1 hT hP10 => ?_)
  refine tj_iconst 14 dX11_termsTo_13 rfl ?_
  refine ev_ist2 15 dX11_termsTo_14 rfl (by decide) rfl ?_
  have lp15 : ∀ (n15 : Nat) (t : Nat) (z2 : Int)  (h : AH) (X2 : XM), 21 - t < n15 → (t ≤ 20) → (tt X c t = -1) → z2 = (t + 1 : Int) → TR g α ν X2 h → NWC X (nfS X t) X2 → Ev g M_X11_termsTo 28 15 [some (.ref (α 0 0)), some (.int (J (c : Int))), some (.int (J z2))] [] h 1 6 (VQ g α ν "java/util/NoSuchElementException" (fun X' => ∃ t, NWC X (nfS X t) X')) := by
    intro n15
    induction n15 with
    | zero => intro t z2 h X2 hm; exact absurd hm (Nat.not_lt_zero _)
    | succ n15 ih15 =>
      intro t z2 h X2 hm15 ht htt e2 hT hI
      subst e2
      have hW := wx_nw hW0 hI
      refine ev_ild2 16 dX11_termsTo_15 rfl ?_
      refine tj_bipush 18 dX11_termsTo_16 (by decide) rfl ?_
      refine tj_icmp_gt 48 21 dX11_termsTo_18 (by decide) rfl (by first | exact TR.rng hT _ _ _ | exact R31_of _ | exact bi_R _ | (constructor <;> omega)) (by first | exact TR.rng hT _ _ _ | exact R31_of _ | exact bi_R _ | (constructor <;> omega)) (fun c18 => ?_) (fun c18 => ?_)
      · skip
        exact ev_throwNW tn_X11_209_329_213 rfl ⟨rfl, _, hT, (by exact ⟨_, hI⟩)⟩ (by decide) (Nat.le_of_ble_eq_true rfl) dX11_termsTo_48 dX11_termsTo_51 dX11_termsTo_52 dX11_termsTo_55 dX11_termsTo_58 (by decide) (by decide)
      · skip
        refine ev_ald0 22 dX11_termsTo_21 rfl ?_
        refine ev_ald0 23 dX11_termsTo_22 rfl ?_
        refine ev_getfield 26 13 7 fl_X11_34_13 (tr0 hT) rfl dX11_termsTo_23 rfl ?_
        refine tmv_V1 29 13 dX11_termsTo_26 lkv_X11_326 (tr0 hT) rfl rfl (by first | decide | omega) (Nat.le_of_ble_eq_true rfl) (c_X11_studyOneTerm hT hW0 hI h5) (fun h X1 hT hP26 => ?_)
        have hW := wx_nw hW0 hP26
        have ep := nw_psd hP26 (c := c) (by omega)
        refine ev_ald0 30 dX11_termsTo_29 rfl ?_
        refine ev_getfield 33 13 7 fl_X11_34_13 (tr0 hT) rfl dX11_termsTo_30 rfl ?_
        refine ev_ild1 34 dX11_termsTo_33 rfl ?_
        refine tc_V1 37 10 dX11_termsTo_34 lkv_X11_283 (tr4 hT (by first | assumption | exact wx_stu hW (by omega) | exact wx_crs hW (by omega) | exact wx_new hW) (by omega)) rfl rfl (by first | decide | omega) (Nat.le_of_ble_eq_true rfl) (c_X8_hasPassed hT hs hl (by omega)) ?_
        refine tb_if_eq 42 40 dX11_termsTo_37 (by decide) rfl (fun c37 => ?_) (fun c37 => ?_)
        · skip
          have c37z : nfS X (t + 1) c = 0 := by simpa using ep.symm.trans c37
          refine tj_inc2 45 dX11_termsTo_42 rfl (by decide) rfl ?_
          refine ev_goto 15 dX11_termsTo_45 (by decide) ?_
          exact ih15 (t + 1) _ _ _ (by omega) (by first | omega | assumption | first | rfl | exact tt_miss htt c37z) (by first | omega | assumption | first | rfl | exact tt_miss htt c37z) (by first | rfl | omega | (omega)) hT (by first | assumption | (first | (rw [hP10]; exact NWC_0) | exact hP26))
        · exact False.elim (by have c37z : nfS X (t + 1) c ≠ 0 := of_decide_eq_true (ep.symm.trans c37); have z := tt_hit htt c37z 20 (by omega); omega)
  exact lp15 _ (0) _ _ _ (Nat.lt_succ_self _) (by first | omega | assumption | first | rfl | exact tt_miss htt c37z) (by first | omega | assumption | first | rfl | exact tt_miss htt c37z) (by first | rfl | omega | (omega)) hT (by first | assumption | (first | (rw [hP10]; exact NWC_0) | exact hP26))
set_option maxRecDepth 100000 in
set_option maxHeartbeats 4000000 in
theorem c_X11_termsTo_ok {g : Gt} {α : AL} {ν : Nat → Nat → Bool} {X : XM} {h : AH} (hT : TR g α ν X h) (hW : WX ν X) {c : Nat} (hc : (c : Int) < nC X) (h5 : ∀ c, c < 20 → X 5 16 c = 0) (hb : tt X c 20 ≠ -1) : Mu g α ν M_X11_termsTo 28 [.ref (α 0 0), .int (J (c : Int))] h (some (.int (J (tt X c 20)))) (fun X' => ∃ t, NWC X (nfS X t) X') := by
  refine mu_of rfl rfl (ls := [some (.ref (α 0 0)), some (.int (J (c : Int))), none]) rfl (Nat.le_of_ble_eq_true rfl) ?_
  show Ev g M_X11_termsTo 28 0 [some (.ref (α 0 0)), some (.int (J (c : Int))), none] [] h 0 0 (UQ g α ν (some (.int (J (tt X c 20)))) (fun X' => ∃ t, NWC X (nfS X t) X'))
  have q1 := wo_nC hW.1
  have q3 := wo_nS hW.1
  have hW0 := hW
  have hO := hW.1
  have hs := wx_new hW
  have hl : 16 < 17 := by omega
  refine ev_ald0 1 dX11_termsTo_0 rfl ?_
  refine ev_ild1 2 dX11_termsTo_1 rfl ?_
  refine tc_V1 5 13 dX11_termsTo_2 lkv_X11_104 (tr0 hT) rfl rfl (by first | decide | omega) (Nat.le_of_ble_eq_true rfl) (c_X11_courseAt_ok hT hW (by omega)) ?_
  refine ev_pop 6 dX11_termsTo_5 rfl rfl ?_
  refine ev_ald0 7 dX11_termsTo_6 rfl ?_
  refine ev_getfield 10 13 7 fl_X11_34_13 (tr0 hT) rfl dX11_termsTo_7 rfl ?_
  refine tmv_V0 13 10 dX11_termsTo_10 lkv_X11_323 (tr4 hT (by first | assumption | exact wx_stu hW (by omega) | exact wx_crs hW (by omega) | exact wx_new hW) (by omega)) rfl rfl (by first | decide | omega) (Nat.le_of_ble_eq_true rfl) (c_X8_forgetRecord hT (wx_new hW) (by omega)) (fun h X1 hT hP10 => ?_)
  refine tj_iconst 14 dX11_termsTo_13 rfl ?_
  refine ev_ist2 15 dX11_termsTo_14 rfl (by decide) rfl ?_
  have lp15 : ∀ (n15 : Nat) (t : Nat) (z2 : Int)  (h : AH) (X2 : XM), 21 - t < n15 → (t ≤ 20) → (tt X c t = -1) → z2 = (t + 1 : Int) → TR g α ν X2 h → NWC X (nfS X t) X2 → Ev g M_X11_termsTo 28 15 [some (.ref (α 0 0)), some (.int (J (c : Int))), some (.int (J z2))] [] h 0 0 (UQ g α ν (some (.int (J (tt X c 20)))) (fun X' => ∃ t, NWC X (nfS X t) X')) := by
    intro n15
    induction n15 with
    | zero => intro t z2 h X2 hm; exact absurd hm (Nat.not_lt_zero _)
    | succ n15 ih15 =>
      intro t z2 h X2 hm15 ht htt e2 hT hI
      subst e2
      have hW := wx_nw hW0 hI
      refine ev_ild2 16 dX11_termsTo_15 rfl ?_
      refine tj_bipush 18 dX11_termsTo_16 (by decide) rfl ?_
      refine tj_icmp_gt 48 21 dX11_termsTo_18 (by decide) rfl (by first | exact TR.rng hT _ _ _ | exact R31_of _ | exact bi_R _ | (constructor <;> omega)) (by first | exact TR.rng hT _ _ _ | exact R31_of _ | exact bi_R _ | (constructor <;> omega)) (fun c18 => ?_) (fun c18 => ?_)
      · exact False.elim (by obtain rfl : t = 20 := (by omega); exact hb htt)
      · skip
        refine ev_ald0 22 dX11_termsTo_21 rfl ?_
        refine ev_ald0 23 dX11_termsTo_22 rfl ?_
        refine ev_getfield 26 13 7 fl_X11_34_13 (tr0 hT) rfl dX11_termsTo_23 rfl ?_
        refine tmv_V1 29 13 dX11_termsTo_26 lkv_X11_326 (tr0 hT) rfl rfl (by first | decide | omega) (Nat.le_of_ble_eq_true rfl) (c_X11_studyOneTerm hT hW0 hI h5) (fun h X1 hT hP26 => ?_)
        have hW := wx_nw hW0 hP26
        have ep := nw_psd hP26 (c := c) (by omega)
        refine ev_ald0 30 dX11_termsTo_29 rfl ?_
        refine ev_getfield 33 13 7 fl_X11_34_13 (tr0 hT) rfl dX11_termsTo_30 rfl ?_
        refine ev_ild1 34 dX11_termsTo_33 rfl ?_
        refine tc_V1 37 10 dX11_termsTo_34 lkv_X11_283 (tr4 hT (by first | assumption | exact wx_stu hW (by omega) | exact wx_crs hW (by omega) | exact wx_new hW) (by omega)) rfl rfl (by first | decide | omega) (Nat.le_of_ble_eq_true rfl) (c_X8_hasPassed hT hs hl (by omega)) ?_
        refine tb_if_eq 42 40 dX11_termsTo_37 (by decide) rfl (fun c37 => ?_) (fun c37 => ?_)
        · skip
          have c37z : nfS X (t + 1) c = 0 := by simpa using ep.symm.trans c37
          refine tj_inc2 45 dX11_termsTo_42 rfl (by decide) rfl ?_
          refine ev_goto 15 dX11_termsTo_45 (by decide) ?_
          exact ih15 (t + 1) _ _ _ (by omega) (by first | omega | assumption | first | rfl | exact tt_miss htt c37z) (by first | omega | assumption | first | rfl | exact tt_miss htt c37z) (by first | rfl | omega | (omega)) hT (by first | assumption | (first | (rw [hP10]; exact NWC_0) | exact hP26))
        · skip
          have c37z : nfS X (t + 1) c ≠ 0 := of_decide_eq_true (ep.symm.trans c37)
          refine ev_ild2 41 dX11_termsTo_40 rfl ?_
          exact ev_ireturn (uq_i (by first | rfl | omega | exact bi_dt (by omega) | exact bi_df (by omega) | (exact (tt_hit htt c37z 20 (by omega)).symm)) hT (by exact ⟨_, hP26⟩)) rfl dX11_termsTo_41
  exact lp15 _ (0) _ _ _ (Nat.lt_succ_self _) (by first | omega | assumption | first | rfl | exact tt_miss htt c37z) (by first | omega | assumption | first | rfl | exact tt_miss htt c37z) (by first | rfl | omega | (omega)) hT (by first | assumption | (first | (rw [hP10]; exact NWC_0) | exact hP26))
