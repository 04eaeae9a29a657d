/-! THE CLASS: a match is made -/
section RU9
variable {g : Gt} {α : AL} {ν : Nat → Nat → Bool} {X : XM} {M M2 : Mt} {d d1 pc : Nat} {ls : List (Option Value)} {st : List Value} {h : AH} {mc ms : Nat} {Q : RT → AH → Prop}
/-- a contract whose answer is told with what holds behind it: a number; a truth -/
def EQ (g : Gt) (α : AL) (ν : Nat → Nat → Bool) (P : Int → XM → Prop) : RT → AH → Prop := fun r h' => ∃ v X', r = .inl (some (.int (J v))) ∧ TR g α ν X' h' ∧ P v X'
def EB (g : Gt) (α : AL) (ν : Nat → Nat → Bool) (P : Bool → XM → Prop) : RT → AH → Prop := fun r h' => ∃ v X', r = .inl (some (.int (J (bi v)))) ∧ TR g α ν X' h' ∧ P v X'
def Me (g : Gt) (α : AL) (ν : Nat → Nat → Bool) (M : Mt) (d : Nat) (av : List Value) (h : AH) (P : Int → XM → Prop) : Prop := Ct g M d av h 0 0 (EQ g α ν P)
def Mb (g : Gt) (α : AL) (ν : Nat → Nat → Bool) (M : Mt) (d : Nat) (av : List Value) (h : AH) (P : Bool → XM → Prop) : Prop := Ct g M d av h 0 0 (EB g α ν P)
theorem me_of {av : List Value} {P : Int → XM → Prop} (hp : plainName (mY M).cls = true) (hh : mH M = []) (hls : entL (mL M) av = ls) (hlen : (lg_sl av).length ≤ mL M) (k : Ev g M d 0 ls [] h 0 0 (EQ g α ν P)) : Me g α ν M d av h P := ct_of_ev hp hh hls hlen k
theorem mb_of {av : List Value} {P : Bool → XM → Prop} (hp : plainName (mY M).cls = true) (hh : mH M = []) (hls : entL (mL M) av = ls) (hlen : (lg_sl av).length ≤ mL M) (k : Ev g M d 0 ls [] h 0 0 (EB g α ν P)) : Mb g α ν M d av h P := ct_of_ev hp hh hls hlen k
theorem tz_retE {a : Int} {b : Bool} {P : Bool → XM → Prop} (e : a = bi b) (hT : TR g α ν X h) (hP : P b X) (hr : mR M = some .boolean) (hd : decode (mC M) pc = .ok (.ireturn, 1)) : Ev g M d pc ls [.int (J a)] h mc ms (EB g α ν P) := by
  subst e
  exact ev_zreturn ⟨b, X, rfl, hT, hP⟩ hr (nar_b b) hd
theorem te_V0 {P : Int → XM → Prop} {b : Nat} {fs : List Value} {index : Nat} (n ci : Nat) (hd : decode (mC M) pc = .ok (.invokevirtual index, 3)) (L : LKv (mY M).cls index M2 0) (hb : h b = some (.inr (ci, fs))) (hci : vwCl[ci]?.map (·.1) = some (mY M2).cls) (hn : pc + 3 = n) (hd1 : d1 < d) (hcat : (st.map fun v => v.category).sum ≤ 8) (hc : Me g α ν M2 d1 [.ref b] h P) (kk : ∀ h' X' v, TR g α ν X' h' → P v X' → Ev g M d n ls ((.int (J v)) :: st) h' mc ms Q) : Ev g M d pc ls (.ref b :: st) h mc ms Q :=
  ev_mono (mc := 0 + mc) (ms := 0 + ms) (by omega) (by omega) (ev_callV n ci L hc hd1 hb hci rfl rfl hcat hd hn (fun v h' hq => by obtain ⟨v2, X', e1, e2, e3⟩ := hq; cases e1; exact kk h' X' v2 e2 e3) (fun E h' hq => by obtain ⟨v2, X', e1, -⟩ := hq; cases e1))
theorem te_V1 {x0 : Value} {P : Int → XM → Prop} {b : Nat} {fs : List Value} {index : Nat} (n ci : Nat) (hd : decode (mC M) pc = .ok (.invokevirtual index, 3)) (L : LKv (mY M).cls index M2 1) (hb : h b = some (.inr (ci, fs))) (hci : vwCl[ci]?.map (·.1) = some (mY M2).cls) (hn : pc + 3 = n) (hd1 : d1 < d) (hcat : (st.map fun v => v.category).sum ≤ 8) (hc : Me g α ν M2 d1 [.ref b, x0] h P) (kk : ∀ h' X' v, TR g α ν X' h' → P v X' → Ev g M d n ls ((.int (J v)) :: st) h' mc ms Q) : Ev g M d pc ls (x0 :: .ref b :: st) h mc ms Q :=
  ev_mono (mc := 0 + mc) (ms := 0 + ms) (by omega) (by omega) (ev_callV n ci L hc hd1 hb hci rfl rfl hcat hd hn (fun v h' hq => by obtain ⟨v2, X', e1, e2, e3⟩ := hq; cases e1; exact kk h' X' v2 e2 e3) (fun E h' hq => by obtain ⟨v2, X', e1, -⟩ := hq; cases e1))
theorem tg_V1 {x0 : Value} {P : Bool → XM → Prop} {b : Nat} {fs : List Value} {index : Nat} (n ci : Nat) (hd : decode (mC M) pc = .ok (.invokevirtual index, 3)) (L : LKv (mY M).cls index M2 1) (hb : h b = some (.inr (ci, fs))) (hci : vwCl[ci]?.map (·.1) = some (mY M2).cls) (hn : pc + 3 = n) (hd1 : d1 < d) (hcat : (st.map fun v => v.category).sum ≤ 8) (hc : Mb g α ν M2 d1 [.ref b, x0] h P) (kk : ∀ h' X' v, TR g α ν X' h' → P v X' → Ev g M d n ls ((.int (J (bi v))) :: st) h' mc ms Q) : Ev g M d pc ls (x0 :: .ref b :: st) h mc ms Q :=
  ev_mono (mc := 0 + mc) (ms := 0 + ms) (by omega) (by omega) (ev_callV n ci L hc hd1 hb hci rfl rfl hcat hd hn (fun v h' hq => by obtain ⟨v2, X', e1, e2, e3⟩ := hq; cases e1; exact kk h' X' v2 e2 e3) (fun E h' hq => by obtain ⟨v2, X', e1, -⟩ := hq; cases e1))
theorem te_V2 {x0 x1 : Value} {P : Int → XM → Prop} {b : Nat} {fs : List Value} {index : Nat} (n ci : Nat) (hd : decode (mC M) pc = .ok (.invokevirtual index, 3)) (L : LKv (mY M).cls index M2 2) (hb : h b = some (.inr (ci, fs))) (hci : vwCl[ci]?.map (·.1) = some (mY M2).cls) (hn : pc + 3 = n) (hd1 : d1 < d) (hcat : (st.map fun v => v.category).sum ≤ 8) (hc : Me g α ν M2 d1 [.ref b, x0, x1] h P) (kk : ∀ h' X' v, TR g α ν X' h' → P v X' → Ev g M d n ls ((.int (J v)) :: st) h' mc ms Q) : Ev g M d pc ls (x1 :: x0 :: .ref b :: st) h mc ms Q :=
  ev_mono (mc := 0 + mc) (ms := 0 + ms) (by omega) (by omega) (ev_callV n ci L hc hd1 hb hci rfl rfl hcat hd hn (fun v h' hq => by obtain ⟨v2, X', e1, e2, e3⟩ := hq; cases e1; exact kk h' X' v2 e2 e3) (fun E h' hq => by obtain ⟨v2, X', e1, -⟩ := hq; cases e1))
end RU9
/-- an audit that is open: m slots, their rules' numbers, what they need, what fits -/
def bts (z : Int) (p : Nat → Bool) : Prop := 0 ≤ z ∧ z < 16 ∧ ∀ k, k < 4 → z.toNat.testBit k = p k
def AU (X : XM) (m : Nat) (it : Nat → Nat) (nd : Nat → Int) (ft : Nat → Nat → Bool) : Prop := X 17 0 0 = m ∧ (∀ k, k < m → X 18 0 k = it k ∧ X 19 0 k = nd k) ∧ ∀ c, c < 20 → bts (X 20 0 c) (fun k => decide (k < m) && ft c k)
theorem AU_cg {X Y : XM} {m : Nat} {it : Nat → Nat} {nd : Nat → Int} {ft : Nat → Nat → Bool} (h : AU X m it nd ft) (h17 : Y 17 = X 17) (h18 : Y 18 = X 18) (h19 : Y 19 = X 19) (h20 : Y 20 = X 20) : AU Y m it nd ft := by
  unfold AU
  rw [h17, h18, h19, h20]
  exact h
theorem AU_f {X Y : XM} {m : Nat} {it : Nat → Nat} {nd : Nat → Int} {ft : Nat → Nat → Bool} (h : AU X m it nd ft) (hk : ∀ kk, kk ≠ 21 → kk ≠ 22 → kk ≠ 23 → kk ≠ 24 → kk ≠ 25 → Y kk = X kk) : AU Y m it nd ft := AU_cg h (hk 17 (by decide) (by decide) (by decide) (by decide) (by decide)) (hk 18 (by decide) (by decide) (by decide) (by decide) (by decide)) (hk 19 (by decide) (by decide) (by decide) (by decide) (by decide)) (hk 20 (by decide) (by decide) (by decide) (by decide) (by decide))
theorem bts_0 {p : Nat → Bool} (h : bts 0 p) {k : Nat} (hk : k < 4) : p k = false := by
  rw [← h.2.2 k hk]
  show Nat.testBit 0 k = false
  simp
theorem PR_mono {m : Nat} {fit : Nat → Nat → Bool} {rm G got fd cm fd2 cm2 : Nat → Int} {n : Nat} (h : PR m fit rm G got fd cm n) (h1 : ∀ i, i < n → fd2 i = fd i) (h2 : ∀ k, k < m → cm k ≠ -1 → cm2 k ≠ -1) : PR m fit rm G got fd2 cm2 n := fun i hi k hk e => by
  rw [h1 i hi] at e
  obtain ⟨a, b⟩ := h i hi k hk e
  exact ⟨a, fun c hc e2 k2 hk2 hf => h2 k2 hk2 (b c hc e2 k2 hk2 hf)⟩
theorem PR_s {m : Nat} {fit : Nat → Nat → Bool} {rm G got fd cm : Nat → Int} {n k : Nat} (h : PR m fit rm G got fd cm n) (hk : fd n = (k : Int)) (h1 : got k = rm k) (h2 : ∀ c, c < 20 → G c = (k : Int) → ∀ k2, k2 < m → fit c k2 = true → cm k2 ≠ -1) : PR m fit rm G got fd cm (n + 1) := fun i hi j hj e => by
  by_cases q : i = n
  · subst q
    have : j = k := by omega
    subst this
    exact ⟨h1, h2⟩
  · exact h i (by omega) j hj e
/-- behind a search for a course's slots -/
def FSP (m : Nat) (ft : Nat → Nat → Bool) (X X' : XM) (x L0 L : Nat) : Prop := (∀ kk, kk ≠ 24 → kk ≠ 25 → X' kk = X kk) ∧ SQ m ft (X 23 0) x (X' 24 0) (X' 25 0) L ∧ L0 ≤ L ∧ (∀ i, i < L0 → X' 24 0 i = X 24 0 i) ∧ ∀ j, j < m → X 25 0 j ≠ -1 → X' 25 0 j ≠ -1
set_option maxRecDepth 100000 in
set_option maxHeartbeats 4000000 in
theorem c_X0_isFit {g : Gt} {α : AL} {ν : Nat → Nat → Bool} {X : XM} {h : AH} (hT : TR g α ν X h) {m : Nat} {it : Nat → Nat} {nd : Nat → Int} {ft : Nat → Nat → Bool} (hA : AU X m it nd ft) (hm : m ≤ 4) {c k : Nat} (hc : c < 20) (hk : k < m) : Pr g M_X0_isFit 0 [.ref (α 17 0), .int (J (c : Int)), .int (J (k : Int))] h (some (.int (J (bi (ft c k))))) := by
  refine pr_of rfl rfl (ls := [some (.ref (α 17 0)), some (.int (J (c : Int))), some (.int (J (k : Int)))]) rfl (Nat.le_of_ble_eq_true rfl) ?_
  show Ev g M_X0_isFit 0 0 [some (.ref (α 17 0)), some (.int (J (c : Int))), some (.int (J (k : Int)))] [] h 0 0 (PQ (some (.int (J (bi (ft c k))))) h)
  obtain ⟨b1, b2, b3⟩ := hA.2.2 c hc
  have b4 : (X 20 0 c).toNat.testBit k = (decide (k < m) && ft c k) := b3 k (by omega)
  rw [decide_eq_true hk, Bool.true_and] at b4
  have hr : (((X 20 0 c).toNat >>> k &&& 1 : Nat) : Int) ≤ 1 := by have := Nat.and_le_right (n := (X 20 0 c).toNat >>> k) (m := 1); omega
  refine ev_ald0 1 dX0_isFit_0 rfl ?_
  refine ev_getfield 4 3 3 fl_X0_18_3 (tr17 hT) rfl dX0_isFit_1 rfl ?_
  refine ev_ild1 5 dX0_isFit_4 rfl ?_
  refine tv_iald 6 (tr20 hT) (c) (by omega) (by omega) (by omega) dX0_isFit_5 rfl ?_
  refine ev_ild2 7 dX0_isFit_6 rfl ?_
  refine tj_ishr 8 dX0_isFit_7 (X 20 0 c).toNat k (by omega) rfl (by omega) (by omega) rfl ?_
  refine tj_iconst 9 dX0_isFit_8 rfl ?_
  refine tj_iand 10 dX0_isFit_9 _ 1 rfl rfl rfl ?_
  refine tj_if_eq 17 13 dX0_isFit_10 (by decide) rfl (by first | exact TR.rng hT _ _ _ | exact R31_of _ | exact bi_R _ | (constructor <;> omega)) (fun c10 => ?_) (fun c10 => ?_)
  · skip
    refine tj_iconst 18 dX0_isFit_17 rfl ?_
    exact tz_ret (by first | rfl | omega | exact bi_dt (by omega) | exact bi_df (by omega) | (rw [← b4]; first | exact hb_1 (by omega) | exact hb_0 (by omega))) rfl dX0_isFit_18
  · skip
    refine tj_iconst 14 dX0_isFit_13 rfl ?_
    refine ev_goto 18 dX0_isFit_14 (by decide) ?_
    exact tz_ret (by first | rfl | omega | exact bi_dt (by omega) | exact bi_df (by omega) | (rw [← b4]; first | exact hb_1 (by omega) | exact hb_0 (by omega))) rfl dX0_isFit_18
set_option maxRecDepth 100000 in
set_option maxHeartbeats 4000000 in
theorem c_X0_findSlotsFor {g : Gt} {α : AL} {ν : Nat → Nat → Bool} {X : XM} {h : AH} (hT : TR g α ν X h) {m : Nat} {it : Nat → Nat} {nd : Nat → Int} {ft : Nat → Nat → Bool} (hA : AU X m it nd ft) (hm : m ≤ 4) {c x L0 : Nat} (hc : c < 20) (hS : SQ m ft (X 23 0) x (X 24 0) (X 25 0) L0) (hp : c = x ∨ ∃ i2, i2 < L0 ∧ X 23 0 c = X 24 0 i2) : Me g α ν M_X0_findSlotsFor 1 [.ref (α 17 0), .int (J (c : Int)), .int (J (L0 : Int))] h (fun v X' => ∃ L : Nat, v = (L : Int) ∧ FSP m ft X X' x L0 L ∧ ∀ j, j < m → ft c j = true → X' 25 0 j ≠ -1) := by
  refine me_of rfl rfl (ls := [some (.ref (α 17 0)), some (.int (J (c : Int))), some (.int (J (L0 : Int))), none, none]) rfl (Nat.le_of_ble_eq_true rfl) ?_
  show Ev g M_X0_findSlotsFor 1 0 [some (.ref (α 17 0)), some (.int (J (c : Int))), some (.int (J (L0 : Int))), none, none] [] h 0 0 (EQ g α ν (fun v X' => ∃ L : Nat, v = (L : Int) ∧ FSP m ft X X' x L0 L ∧ ∀ j, j < m → ft c j = true → X' 25 0 j ≠ -1))
  have a1 := hA.1
  have hL0 := SQ_L hS
  refine ev_ild2 1 dX0_findSlotsFor_0 rfl ?_
  refine ev_ist3 2 dX0_findSlotsFor_1 rfl (by decide) rfl ?_
  refine tj_iconst 3 dX0_findSlotsFor_2 rfl ?_
  refine ev_ist4 5 dX0_findSlotsFor_3 rfl (by decide) rfl ?_
  have lp5 : ∀ (n5 : Nat) (k L : Nat) (z3 : Int) (z4 : Int)  (h : AH) (X2 : XM), 5 - k < n5 → (k ≤ m) → (L ≤ m) → z3 = (L : Int) → z4 = (k : Int) → TR g α ν X2 h → (FSP m ft X X2 x L0 L ∧ ∀ j, j < k → ft c j = true → X2 25 0 j ≠ -1) → Ev g M_X0_findSlotsFor 1 5 [some (.ref (α 17 0)), some (.int (J (c : Int))), some (.int (J (L0 : Int))), some (.int (J z3)), some (.int (J z4))] [] h 0 0 (EQ g α ν (fun v X' => ∃ L : Nat, v = (L : Int) ∧ FSP m ft X X' x L0 L ∧ ∀ j, j < m → ft c j = true → X' 25 0 j ≠ -1)) := by
    intro n5
    induction n5 with
    | zero => intro k L z3 z4 h X2 hm; exact absurd hm (Nat.not_lt_zero _)
    | succ n5 ih5 =>
      intro k L z3 z4 h X2 hm5 hk hLm e3 e4 hT hI
      subst e3
      subst e4
      obtain ⟨hF, hJ⟩ := hI
      obtain ⟨f1, f2, f3, f4, f5⟩ := hF
      have hA2 : AU X2 m it nd ft := AU_f hA (fun kk _ _ _ d e => f1 kk d e)
      have a12 := hA2.1
      refine ev_ild4 7 dX0_findSlotsFor_5 rfl ?_
      refine ev_ald0 8 dX0_findSlotsFor_7 rfl ?_
      refine ev_getfield 11 3 0 fl_X0_40_3 (tr17 hT) rfl dX0_findSlotsFor_8 rfl ?_
      refine tj_icmp_ge 65 14 dX0_findSlotsFor_11 (by decide) rfl (by first | exact TR.rng hT _ _ _ | exact R31_of _ | exact bi_R _ | (constructor <;> omega)) (by first | exact TR.rng hT _ _ _ | exact R31_of _ | exact bi_R _ | (constructor <;> omega)) (fun c11 => ?_) (fun c11 => ?_)
      · skip
        refine ev_ild3 66 dX0_findSlotsFor_65 rfl ?_
        exact ev_ireturn ⟨_, _, rfl, hT, (by exact ⟨L, rfl, ⟨f1, f2, f3, f4, f5⟩, fun j hj q => hJ j (by omega) q⟩)⟩ rfl dX0_findSlotsFor_66
      · skip
        refine ev_ald0 15 dX0_findSlotsFor_14 rfl ?_
        refine ev_ild1 16 dX0_findSlotsFor_15 rfl ?_
        refine ev_ild4 18 dX0_findSlotsFor_16 rfl ?_
        refine tc_V2 21 3 dX0_findSlotsFor_18 lkv_X0_109 (tr17 hT) rfl rfl (by first | decide | omega) (Nat.le_of_ble_eq_true rfl) (c_X0_isFit hT hA2 hm (by omega) (by omega)) ?_
        refine tb_if_eq 59 24 dX0_findSlotsFor_21 (by decide) rfl (fun c21 => ?_) (fun c21 => ?_)
        · skip
          obtain ⟨L9, h9⟩ : ∃ L9 : Nat, (L : Int) = (L9 : Int) ∧ FSP m ft X X2 x L0 L9 ∧ ∀ j, j < k + 1 → ft c j = true → X2 25 0 j ≠ -1 := ⟨L, rfl, ⟨f1, f2, f3, f4, f5⟩, fun j hj q => by by_cases e : j = k; (rw [e, c21] at q; cases q); exact hJ j (by omega) q⟩
          refine tj_inc4 62 dX0_findSlotsFor_59 rfl (by decide) rfl ?_
          refine ev_goto 5 dX0_findSlotsFor_62 (by decide) ?_
          exact ih5 (k + 1) (L9) _ _ _ _ (by omega) (by first | omega | assumption | exact SQ_L h9.2.1.2.1) (by first | omega | assumption | exact SQ_L h9.2.1.2.1) (by first | rfl | omega | (exact h9.1)) (by first | rfl | omega | (exact h9.1)) hT (by first | assumption | (first | exact ⟨⟨fun _ _ _ => rfl, hS, Nat.le_refl _, fun _ _ => rfl, fun _ _ q => q⟩, fun j hj => absurd hj (Nat.not_lt_zero j)⟩ | exact h9.2))
        · skip
          refine ev_ald0 25 dX0_findSlotsFor_24 rfl ?_
          refine ev_getfield 28 3 8 fl_X0_33_3 (tr17 hT) rfl dX0_findSlotsFor_25 rfl ?_
          refine ev_ild4 30 dX0_findSlotsFor_28 rfl ?_
          refine tv_iald 31 (tr25 hT) (k) (by omega) (by omega) (by omega) dX0_findSlotsFor_30 rfl ?_
          refine tj_iconst 32 dX0_findSlotsFor_31 rfl ?_
          refine tj_icmp_ne 59 35 dX0_findSlotsFor_32 (by decide) rfl (by first | exact TR.rng hT _ _ _ | exact R31_of _ | exact bi_R _ | (constructor <;> omega)) (by first | exact TR.rng hT _ _ _ | exact R31_of _ | exact bi_R _ | (constructor <;> omega)) (fun c32 => ?_) (fun c32 => ?_)
          · skip
            obtain ⟨L9, h9⟩ : ∃ L9 : Nat, (L : Int) = (L9 : Int) ∧ FSP m ft X X2 x L0 L9 ∧ ∀ j, j < k + 1 → ft c j = true → X2 25 0 j ≠ -1 := ⟨L, rfl, ⟨f1, f2, f3, f4, f5⟩, fun j hj q => by by_cases e : j = k; (rw [e]; exact c32); exact hJ j (by omega) q⟩
            refine tj_inc4 62 dX0_findSlotsFor_59 rfl (by decide) rfl ?_
            refine ev_goto 5 dX0_findSlotsFor_62 (by decide) ?_
            exact ih5 (k + 1) (L9) _ _ _ _ (by omega) (by first | omega | assumption | exact SQ_L h9.2.1.2.1) (by first | omega | assumption | exact SQ_L h9.2.1.2.1) (by first | rfl | omega | (exact h9.1)) (by first | rfl | omega | (exact h9.1)) hT (by first | assumption | (first | exact ⟨⟨fun _ _ _ => rfl, hS, Nat.le_refl _, fun _ _ => rfl, fun _ _ q => q⟩, fun j hj => absurd hj (Nat.not_lt_zero j)⟩ | exact h9.2))
          · skip
            have hkm : k < m := by omega
            have hp2 : c = x ∨ ∃ i2, i2 < L ∧ X 23 0 c = X2 24 0 i2 := by rcases hp with q | ⟨i2, q1, q2⟩; exact Or.inl q; exact Or.inr ⟨i2, by omega, by rw [f4 i2 q1]; exact q2⟩
            have hadd := SQ_add f2 hkm hc c32 c21 hp2
            have hLm2 := hadd.2
            refine ev_ild3 36 dX0_findSlotsFor_35 rfl ?_
            refine tj_iconst 37 dX0_findSlotsFor_36 rfl ?_
            refine tj_icmp_ge 59 40 dX0_findSlotsFor_37 (by decide) rfl (by first | exact TR.rng hT _ _ _ | exact R31_of _ | exact bi_R _ | (constructor <;> omega)) (by first | exact TR.rng hT _ _ _ | exact R31_of _ | exact bi_R _ | (constructor <;> omega)) (fun c37 => ?_) (fun c37 => ?_)
            · exact False.elim (by omega)
            · skip
              refine ev_ald0 41 dX0_findSlotsFor_40 rfl ?_
              refine ev_getfield 44 3 8 fl_X0_33_3 (tr17 hT) rfl dX0_findSlotsFor_41 rfl ?_
              refine ev_ild4 46 dX0_findSlotsFor_44 rfl ?_
              refine ev_ild1 47 dX0_findSlotsFor_46 rfl ?_
              refine tv_iast 48 hT (tv25 hT) (fun _ => rfl) (k) (by omega) (by omega) (by omega) (by first | exact TR.rng hT _ _ _ | exact R31_of _ | exact bi_R _ | (constructor <;> omega)) dX0_findSlotsFor_47 rfl (fun h hT => ?_)
              obtain ⟨X3, hX3⟩ : ∃ Z, Z = xs X2 25 0 k (c : Int) := ⟨_, rfl⟩
              rw [← hX3] at hT
              refine ev_ald0 49 dX0_findSlotsFor_48 rfl ?_
              refine ev_getfield 52 3 7 fl_X0_30_3 (tr17 hT) rfl dX0_findSlotsFor_49 rfl ?_
              refine ev_ild3 53 dX0_findSlotsFor_52 rfl ?_
              refine ev_ild4 55 dX0_findSlotsFor_53 rfl ?_
              refine tv_iast 56 hT (tv24 hT) (fun _ => rfl) (L) (by omega) (by omega) (by omega) (by first | exact TR.rng hT _ _ _ | exact R31_of _ | exact bi_R _ | (constructor <;> omega)) dX0_findSlotsFor_55 rfl (fun h hT => ?_)
              obtain ⟨X4, hX4⟩ : ∃ Z, Z = xs X3 24 0 L (k : Int) := ⟨_, rfl⟩
              rw [← hX4] at hT
              have e24 : X4 24 0 = fs (X2 24 0) L k := by rw [hX4, xs_fn, hX3, xs_nk (by decide)]; rfl
              have e25 : X4 25 0 = fs (X2 25 0) k c := by rw [hX4, xs_nk (by decide), hX3, xs_fn]; rfl
              obtain ⟨L9, h9⟩ : ∃ L9 : Nat, (L : Int) + 1 = (L9 : Int) ∧ FSP m ft X X4 x L0 L9 ∧ ∀ j, j < k + 1 → ft c j = true → X4 25 0 j ≠ -1 := ⟨L + 1, rfl, ⟨fun kk q1 q2 => by rw [hX4, xs_nk q1, hX3, xs_nk q2]; exact f1 kk q1 q2, by rw [e24, e25]; exact hadd.1, by omega, fun i hi => by rw [e24, fs_ne (by omega)]; exact f4 i hi, fun j hj q => by rw [e25]; by_cases e : j = k; (rw [e, fs_at]; omega); (rw [fs_ne e]; exact f5 j hj q)⟩, fun j hj q => by rw [e25]; by_cases e : j = k; (rw [e, fs_at]; omega); (rw [fs_ne e]; exact hJ j (by omega) q)⟩
              refine tj_inc3 59 dX0_findSlotsFor_56 rfl (by decide) rfl ?_
              refine tj_inc4 62 dX0_findSlotsFor_59 rfl (by decide) rfl ?_
              refine ev_goto 5 dX0_findSlotsFor_62 (by decide) ?_
              exact ih5 (k + 1) (L9) _ _ _ _ (by omega) (by first | omega | assumption | exact SQ_L h9.2.1.2.1) (by first | omega | assumption | exact SQ_L h9.2.1.2.1) (by first | rfl | omega | (exact h9.1)) (by first | rfl | omega | (exact h9.1)) hT (by first | assumption | (first | exact ⟨⟨fun _ _ _ => rfl, hS, Nat.le_refl _, fun _ _ => rfl, fun _ _ q => q⟩, fun j hj => absurd hj (Nat.not_lt_zero j)⟩ | exact h9.2))
  exact lp5 _ (0) (L0) _ _ _ _ (Nat.lt_succ_self _) (by first | omega | assumption | exact SQ_L h9.2.1.2.1) (by first | omega | assumption | exact SQ_L h9.2.1.2.1) (by first | rfl | omega | (exact h9.1)) (by first | rfl | omega | (exact h9.1)) hT (by first | assumption | (first | exact ⟨⟨fun _ _ _ => rfl, hS, Nat.le_refl _, fun _ _ => rfl, fun _ _ q => q⟩, fun j hj => absurd hj (Nat.not_lt_zero j)⟩ | exact h9.2))
set_option maxRecDepth 100000 in
set_option maxHeartbeats 4000000 in
theorem c_X0_handOn {g : Gt} {α : AL} {ν : Nat → Nat → Bool} {X : XM} {h : AH} (hT : TR g α ν X h) {m : Nat} {it : Nat → Nat} {nd : Nat → Int} {ft : Nat → Nat → Bool} (hA : AU X m it nd ft) (hm : m ≤ 4) {x L last n : Nat} (hxc : x < 20) (hS : SQ m ft (X 23 0) x (X 24 0) (X 25 0) L) (hV : Vd m ft (X 23 0)) (hC : Cd m (X 23 0) (X 22 0)) (hle : ∀ k, k < m → X 22 0 k ≤ X 21 0 k) (hx : X 23 0 x = -1) (hn : n < L) (hl : X 24 0 n = (last : Int)) (hlm : last < m) (hlr : X 22 0 last < X 21 0 last) : Mu g α ν M_X0_handOn 1 [.ref (α 17 0), .int (J (last : Int))] h (none) (fun X' => (∀ kk, kk ≠ 22 → kk ≠ 23 → X' kk = X kk) ∧ GR m ft (X 21 0) (X 23 0) (X 22 0) x (X' 23 0) (X' 22 0)) := by
  refine mu_of rfl rfl (ls := [some (.ref (α 17 0)), some (.int (J (last : Int))), none, none, none, none]) rfl (Nat.le_of_ble_eq_true rfl) ?_
  show Ev g M_X0_handOn 1 0 [some (.ref (α 17 0)), some (.int (J (last : Int))), none, none, none, none] [] h 0 0 (UQ g α ν (none) (fun X' => (∀ kk, kk ≠ 22 → kk ≠ 23 → X' kk = X kk) ∧ GR m ft (X 21 0) (X 23 0) (X 22 0) x (X' 23 0) (X' 22 0)))
  have a1 := hA.1
  have hgl := hC last hlm
  have hgR : 0 ≤ cg (X 23 0) 0 last 20 ∧ cg (X 23 0) 0 last 20 ≤ ((20 : Nat) : Int) := cnt_0 _ 20
  have hLm := SQ_L hS
  have hF0 := CL_last (m := m) (fit := ft) (rm := X 21 0) (G := X 23 0) (got := X 22 0) hlr hlm
  refine ev_ald0 1 dX0_handOn_0 rfl ?_
  refine ev_getfield 4 3 5 fl_X0_24_3 (tr17 hT) rfl dX0_handOn_1 rfl ?_
  refine ev_ild1 5 dX0_handOn_4 rfl ?_
  refine ev_dup2 6 dX0_handOn_5 rfl rfl rfl ?_
  refine tv_iald 7 (tr22 hT) (last) (by omega) (by omega) (by omega) dX0_handOn_6 rfl ?_
  refine tj_iconst 8 dX0_handOn_7 rfl ?_
  refine tj_iadd 9 dX0_handOn_8 rfl ?_
  refine tv_iast 10 hT (tv22 hT) (fun _ => rfl) (last) (by omega) (by omega) (by omega) (by first | exact TR.rng hT _ _ _ | exact R31_of _ | exact bi_R _ | (constructor <;> omega)) dX0_handOn_9 rfl (fun h hT => ?_)
  obtain ⟨X3, hX3⟩ : ∃ Z, Z = xs X 22 0 last (X 22 0 last + 1) := ⟨_, rfl⟩
  rw [← hX3] at hT
  have hI0 : (∀ kk, kk ≠ 22 → kk ≠ 23 → X3 kk = X kk) ∧ (∀ k, X3 22 0 k = X 22 0 k + (if k = last then 1 else 0)) ∧ HO m ft (X 21 0) (X 23 0) (X 22 0) x (X 24 0) L last (X3 23 0) (last : Int) n := ⟨fun kk q1 q2 => by rw [hX3, xs_nk q1], fun k => by rw [hX3, xs_at]; by_cases e : k = last; (rw [if_pos e, if_pos e, e]); (rw [if_neg e, if_neg e, Int.add_zero]), by rw [hX3, xs_nk (by decide)]; exact HO_0 hV hC hx hS hn hl hlm hlr⟩
  refine ev_ild1 11 dX0_handOn_10 rfl ?_
  refine ev_ist2 12 dX0_handOn_11 rfl (by decide) rfl ?_
  refine tj_iconst 13 dX0_handOn_12 rfl ?_
  refine ev_ist3 14 dX0_handOn_13 rfl (by decide) rfl ?_
  have lp14 : ∀ (n14 : Nat) (t i : Nat) (z : Int) (z2 : Int) (z3 : Int) (o4 o5 : Option Value) (h : AH) (X2 : XM), 5 - t < n14 → (z ≠ -1 → t + i + 1 ≤ m) → (t ≤ 4) → z2 = z → z3 = (t : Int) → TR g α ν X2 h → ((∀ kk, kk ≠ 22 → kk ≠ 23 → X2 kk = X kk) ∧ (∀ k, X2 22 0 k = X 22 0 k + (if k = last then 1 else 0)) ∧ HO m ft (X 21 0) (X 23 0) (X 22 0) x (X 24 0) L last (X2 23 0) z i) → Ev g M_X0_handOn 1 14 [some (.ref (α 17 0)), some (.int (J (last : Int))), some (.int (J z2)), some (.int (J z3)), o4, o5] [] h 0 0 (UQ g α ν (none) (fun X' => (∀ kk, kk ≠ 22 → kk ≠ 23 → X' kk = X kk) ∧ GR m ft (X 21 0) (X 23 0) (X 22 0) x (X' 23 0) (X' 22 0))) := by
    intro n14
    induction n14 with
    | zero => intro t i z z2 z3 o4 o5 h X2 hm; exact absurd hm (Nat.not_lt_zero _)
    | succ n14 ih14 =>
      intro t i z z2 z3 o4 o5 h X2 hm14 ht ht2 e2 e3 hT hI
      subst e2
      subst e3
      obtain ⟨f1, f2, hH⟩ := hI
      have a12 : X2 17 0 0 = m := by rw [f1 17 (by decide) (by decide)]; exact a1
      have hzR : -1 ≤ z2 ∧ z2 < 4 := by rcases hH.2.2.2.2.2.2.1 with q | ⟨-, -, ⟨k, q1, q2⟩, -⟩ <;> omega
      refine ev_ild3 15 dX0_handOn_14 rfl ?_
      refine ev_ald0 16 dX0_handOn_15 rfl ?_
      refine ev_getfield 19 3 0 fl_X0_40_3 (tr17 hT) rfl dX0_handOn_16 rfl ?_
      refine tj_icmp_ge 61 22 dX0_handOn_19 (by decide) rfl (by first | exact TR.rng hT _ _ _ | exact R31_of _ | exact bi_R _ | (constructor <;> omega)) (by first | exact TR.rng hT _ _ _ | exact R31_of _ | exact bi_R _ | (constructor <;> omega)) (fun c19 => ?_) (fun c19 => ?_)
      · skip
        have hz1 : z2 = -1 := by by_cases q : z2 = -1; exact q; (have := ht q; omega)
        exact ev_vreturn (uq_v hT (by have hz2 : z2 = -1 := (by first | exact hz1 | exact c24); subst hz2; exact ⟨f1, HO_end hle hlr hlm hH f2 hF0⟩)) rfl dX0_handOn_61
      · skip
        refine ev_ild2 23 dX0_handOn_22 rfl ?_
        refine tj_iconst 24 dX0_handOn_23 rfl ?_
        refine tj_icmp_eq 61 27 dX0_handOn_24 (by decide) rfl (by first | exact TR.rng hT _ _ _ | exact R31_of _ | exact bi_R _ | (constructor <;> omega)) (by first | exact TR.rng hT _ _ _ | exact R31_of _ | exact bi_R _ | (constructor <;> omega)) (fun c24 => ?_) (fun c24 => ?_)
        · skip
          exact ev_vreturn (uq_v hT (by have hz2 : z2 = -1 := (by first | exact hz1 | exact c24); subst hz2; exact ⟨f1, HO_end hle hlr hlm hH f2 hF0⟩)) rfl dX0_handOn_61
        · skip
          rcases hH.2.2.2.2.2.2.1 with q | ⟨hiL, hzf, ⟨k, hk, hzk⟩, -⟩
          · exact absurd q c24
          obtain ⟨c, hc20, hcm, i', hH4, hlt⟩ := HO_s hx hxc hS hk (hzk ▸ hH)
          have e25 : X2 25 0 k = (c : Int) := by rw [f1 25 (by decide) (by decide)]; exact hcm
          have htt := ht c24
          subst hzk
          refine ev_ald0 28 dX0_handOn_27 rfl ?_
          refine ev_getfield 31 3 8 fl_X0_33_3 (tr17 hT) rfl dX0_handOn_28 rfl ?_
          refine ev_ild2 32 dX0_handOn_31 rfl ?_
          refine tv_iald 33 (tr25 hT) (k) (by omega) (by omega) (by omega) dX0_handOn_32 rfl ?_
          rw [e25]
          refine ev_ist4 35 dX0_handOn_33 rfl (by decide) rfl ?_
          refine ev_ald0 36 dX0_handOn_35 rfl ?_
          refine ev_getfield 39 3 6 fl_X0_27_3 (tr17 hT) rfl dX0_handOn_36 rfl ?_
          refine ev_ild4 41 dX0_handOn_39 rfl ?_
          refine tv_iald 42 (tr23 hT) (c) (by omega) (by omega) (by omega) dX0_handOn_41 rfl ?_
          refine ev_ist5 44 dX0_handOn_42 rfl (by decide) rfl ?_
          refine ev_ald0 45 dX0_handOn_44 rfl ?_
          refine ev_getfield 48 3 6 fl_X0_27_3 (tr17 hT) rfl dX0_handOn_45 rfl ?_
          refine ev_ild4 50 dX0_handOn_48 rfl ?_
          refine ev_ild2 51 dX0_handOn_50 rfl ?_
          refine tv_iast 52 hT (tv23 hT) (fun _ => rfl) (c) (by omega) (by omega) (by omega) (by first | exact TR.rng hT _ _ _ | exact R31_of _ | exact bi_R _ | (constructor <;> omega)) dX0_handOn_51 rfl (fun h hT => ?_)
          obtain ⟨X4, hX4⟩ : ∃ Z, Z = xs X2 23 0 c (k : Int) := ⟨_, rfl⟩
          rw [← hX4] at hT
          have e23 : X4 23 0 = fs (X2 23 0) c k := by rw [hX4, xs_fn]; rfl
          have hI4 : (∀ kk, kk ≠ 22 → kk ≠ 23 → X4 kk = X kk) ∧ (∀ k, X4 22 0 k = X 22 0 k + (if k = last then 1 else 0)) ∧ HO m ft (X 21 0) (X 23 0) (X 22 0) x (X 24 0) L last (X4 23 0) (X2 23 0 c) i' := ⟨fun kk q1 q2 => by rw [hX4, xs_nk q2]; exact f1 kk q1 q2, fun k => by rw [hX4, xs_nk (by decide)]; exact f2 k, by rw [e23]; exact hH4⟩
          refine ev_ild5 54 dX0_handOn_52 rfl ?_
          refine ev_ist2 55 dX0_handOn_54 rfl (by decide) rfl ?_
          refine tj_inc3 58 dX0_handOn_55 rfl (by decide) rfl ?_
          refine ev_goto 14 dX0_handOn_58 (by decide) ?_
          exact ih14 (t + 1) (i') (X2 23 0 c) _ _ _ _ _ _ (by omega) (by first | omega | assumption | first | (intro _; omega) | (intro q; rcases hlt with q2 | q2; exact absurd q2 q; omega)) (by first | omega | assumption | first | (intro _; omega) | (intro q; rcases hlt with q2 | q2; exact absurd q2 q; omega)) (by first | rfl | omega | (omega)) (by first | rfl | omega | (omega)) hT (by first | assumption | (first | exact hI0 | exact hI4))
  exact lp14 _ (0) (n) ((last : Int)) _ _ _ _ _ _ (Nat.lt_succ_self _) (by first | omega | assumption | first | (intro _; omega) | (intro q; rcases hlt with q2 | q2; exact absurd q2 q; omega)) (by first | omega | assumption | first | (intro _; omega) | (intro q; rcases hlt with q2 | q2; exact absurd q2 q; omega)) (by first | rfl | omega | (omega)) (by first | rfl | omega | (omega)) hT (by first | assumption | (first | exact hI0 | exact hI4))
set_option maxRecDepth 100000 in
set_option maxHeartbeats 4000000 in
theorem c_X0_give {g : Gt} {α : AL} {ν : Nat → Nat → Bool} {X : XM} {h : AH} (hT : TR g α ν X h) {m : Nat} {it : Nat → Nat} {nd : Nat → Int} {ft : Nat → Nat → Bool} (hA : AU X m it nd ft) (hm : m ≤ 4) {c : Nat} (hc : c < 20) (hV : Vd m ft (X 23 0)) (hC : Cd m (X 23 0) (X 22 0)) (hle : ∀ k, k < m → X 22 0 k ≤ X 21 0 k) (hx : X 23 0 c = -1) : Mb g α ν M_X0_give 2 [.ref (α 17 0), .int (J (c : Int))] h (fun b X' => (∀ kk, kk ≠ 22 → kk ≠ 23 → kk ≠ 24 → kk ≠ 25 → X' kk = X kk) ∧ (b = true → GR m ft (X 21 0) (X 23 0) (X 22 0) c (X' 23 0) (X' 22 0)) ∧ (b = false → X' 23 = X 23 ∧ X' 22 = X 22 ∧ ∃ F, CL m ft (X 21 0) F (X 23 0) (X 22 0) ∧ ∀ k, k < m → ft c k = true → F k = true)) := by
  refine mb_of rfl rfl (ls := [some (.ref (α 17 0)), some (.int (J (c : Int))), none, none, none, none]) rfl (Nat.le_of_ble_eq_true rfl) ?_
  show Ev g M_X0_give 2 0 [some (.ref (α 17 0)), some (.int (J (c : Int))), none, none, none, none] [] h 0 0 (EB g α ν (fun b X' => (∀ kk, kk ≠ 22 → kk ≠ 23 → kk ≠ 24 → kk ≠ 25 → X' kk = X kk) ∧ (b = true → GR m ft (X 21 0) (X 23 0) (X 22 0) c (X' 23 0) (X' 22 0)) ∧ (b = false → X' 23 = X 23 ∧ X' 22 = X 22 ∧ ∃ F, CL m ft (X 21 0) F (X 23 0) (X 22 0) ∧ ∀ k, k < m → ft c k = true → F k = true)))
  have a1 := hA.1
  refine ev_ald0 1 dX0_give_0 rfl ?_
  refine ev_getfield 4 3 8 fl_X0_33_3 (tr17 hT) rfl dX0_give_1 rfl ?_
  refine tj_iconst 5 dX0_give_4 rfl ?_
  refine tmv_S2 8 dX0_give_5 lks_X0_44 rfl (by first | decide | omega) (Nat.le_of_ble_eq_true rfl) (fill_c hT (tv25 hT) (fun _ => rfl) (L := 4) (by omega) (by constructor <;> omega)) (fun h X1 hT hP5 => ?_)
  have hP5b : X1 = xw X 25 0 (fun j => if j < 4 then -1 else X 25 0 j) := hP5
  have hfX : ∀ kk, kk ≠ 25 → X1 kk = X kk := fun kk q => by rw [hP5b]; funext i; exact xw_ne (fun z => q z.1)
  have hf24 := hfX 24 (by decide)
  have hf23 := hfX 23 (by decide)
  have hf25 : X1 25 0 = fun j => if j < 4 then -1 else X 25 0 j := by rw [hP5b, xw_at]
  have hAf : AU X1 m it nd ft := AU_f hA (fun kk _ _ _ _ q => hfX kk q)
  refine ev_ald0 9 dX0_give_8 rfl ?_
  refine ev_ild1 10 dX0_give_9 rfl ?_
  refine tj_iconst 11 dX0_give_10 rfl ?_
  refine te_V2 14 3 dX0_give_11 lkv_X0_101 (tr17 hT) rfl rfl (by first | decide | omega) (Nat.le_of_ble_eq_true rfl) (c_X0_findSlotsFor hT hAf hm (x := c) (L0 := 0) hc (by rw [hf24, hf23, hf25]; exact SQ_0 (fun k hk => if_pos (by omega))) (Or.inl rfl)) (fun h X1 v11 hT hP11 => ?_)
  obtain ⟨L0, hvL, hF0, hJ0⟩ := hP11
  subst hvL
  obtain ⟨w1, w2, w3, w4, w5⟩ := hF0
  have hI0 : (∀ kk, kk ≠ 24 → kk ≠ 25 → X1 kk = X kk) ∧ SQ m ft (X 23 0) c (X1 24 0) (X1 25 0) L0 ∧ (∀ j, j < m → ft c j = true → X1 25 0 j ≠ -1) ∧ PR m ft (X 21 0) (X 23 0) (X 22 0) (X1 24 0) (X1 25 0) 0 ∧ 0 ≤ L0 := ⟨fun kk q1 q2 => by rw [w1 kk q1 q2]; exact hfX kk q2, by rw [← hf23]; exact w2, hJ0, fun i hi => absurd hi (Nat.not_lt_zero i), Nat.zero_le L0⟩
  refine ev_ist2 15 dX0_give_14 rfl (by decide) rfl ?_
  refine tj_iconst 16 dX0_give_15 rfl ?_
  refine ev_ist3 17 dX0_give_16 rfl (by decide) rfl ?_
  have lp17 : ∀ (n17 : Nat) (n L : Nat) (z2 : Int) (z3 : Int) (o4 o5 : Option Value) (h : AH) (X2 : XM), 5 - n < n17 → (n ≤ m) → z2 = (L : Int) → z3 = (n : Int) → TR g α ν X2 h → ((∀ kk, kk ≠ 24 → kk ≠ 25 → X2 kk = X kk) ∧ SQ m ft (X 23 0) c (X2 24 0) (X2 25 0) L ∧ (∀ j, j < m → ft c j = true → X2 25 0 j ≠ -1) ∧ PR m ft (X 21 0) (X 23 0) (X 22 0) (X2 24 0) (X2 25 0) n ∧ n ≤ L) → Ev g M_X0_give 2 17 [some (.ref (α 17 0)), some (.int (J (c : Int))), some (.int (J z2)), some (.int (J z3)), o4, o5] [] h 0 0 (EB g α ν (fun b X' => (∀ kk, kk ≠ 22 → kk ≠ 23 → kk ≠ 24 → kk ≠ 25 → X' kk = X kk) ∧ (b = true → GR m ft (X 21 0) (X 23 0) (X 22 0) c (X' 23 0) (X' 22 0)) ∧ (b = false → X' 23 = X 23 ∧ X' 22 = X 22 ∧ ∃ F, CL m ft (X 21 0) F (X 23 0) (X 22 0) ∧ ∀ k, k < m → ft c k = true → F k = true))) := by
    intro n17
    induction n17 with
    | zero => intro n L z2 z3 o4 o5 h X2 hm; exact absurd hm (Nat.not_lt_zero _)
    | succ n17 ih17 =>
      intro n L z2 z3 o4 o5 h X2 hm17 hnm e2 e3 hT hI
      subst e2
      subst e3
      obtain ⟨p2, hS2, hJ2, hPR, hnL⟩ := hI
      have p17 : X2 17 0 0 = m := by rw [p2 17 (by decide) (by decide)]; exact a1
      have p21 := p2 21 (by decide) (by decide)
      have p22 := p2 22 (by decide) (by decide)
      have p23 := p2 23 (by decide) (by decide)
      have hLm := SQ_L hS2
      refine ev_ild3 18 dX0_give_17 rfl ?_
      refine ev_ald0 19 dX0_give_18 rfl ?_
      refine ev_getfield 22 3 0 fl_X0_40_3 (tr17 hT) rfl dX0_give_19 rfl ?_
      refine tj_icmp_ge 105 25 dX0_give_22 (by decide) rfl (by first | exact TR.rng hT _ _ _ | exact R31_of _ | exact bi_R _ | (constructor <;> omega)) (by first | exact TR.rng hT _ _ _ | exact R31_of _ | exact bi_R _ | (constructor <;> omega)) (fun c22 => ?_) (fun c22 => ?_)
      · skip
        refine tj_iconst 106 dX0_give_105 rfl ?_
        exact tz_retE (b := false) (by first | rfl | omega | exact bi_dt (by omega) | exact bi_df (by omega) | (skip)) hT (by exact ⟨fun kk q1 q2 q3 q4 => p2 kk q3 q4, fun q => (by cases q), fun _ => ⟨p23, p22, _, SQ_fail hS2 hPR (by omega), fun k hk q => decide_eq_true (hJ2 k hk q)⟩⟩) rfl dX0_give_106
      · skip
        refine ev_ild3 26 dX0_give_25 rfl ?_
        refine ev_ild2 27 dX0_give_26 rfl ?_
        refine tj_icmp_ge 105 30 dX0_give_27 (by decide) rfl (by first | exact TR.rng hT _ _ _ | exact R31_of _ | exact bi_R _ | (constructor <;> omega)) (by first | exact TR.rng hT _ _ _ | exact R31_of _ | exact bi_R _ | (constructor <;> omega)) (fun c27 => ?_) (fun c27 => ?_)
        · skip
          refine tj_iconst 106 dX0_give_105 rfl ?_
          exact tz_retE (b := false) (by first | rfl | omega | exact bi_dt (by omega) | exact bi_df (by omega) | (skip)) hT (by exact ⟨fun kk q1 q2 q3 q4 => p2 kk q3 q4, fun q => (by cases q), fun _ => ⟨p23, p22, _, SQ_fail hS2 hPR (by omega), fun k hk q => decide_eq_true (hJ2 k hk q)⟩⟩) rfl dX0_give_106
        · skip
          have hnL2 : n < L := by omega
          obtain ⟨k, hkm, hfk, hck⟩ := hS2.2.1 n hnL2
          refine ev_ald0 31 dX0_give_30 rfl ?_
          refine ev_getfield 34 3 7 fl_X0_30_3 (tr17 hT) rfl dX0_give_31 rfl ?_
          refine ev_ild3 35 dX0_give_34 rfl ?_
          refine tv_iald 36 (tr24 hT) (n) (by omega) (by omega) (by omega) dX0_give_35 rfl ?_
          rw [hfk]
          refine ev_ist4 38 dX0_give_36 rfl (by decide) rfl ?_
          refine ev_ald0 39 dX0_give_38 rfl ?_
          refine ev_getfield 42 3 5 fl_X0_24_3 (tr17 hT) rfl dX0_give_39 rfl ?_
          refine ev_ild4 44 dX0_give_42 rfl ?_
          first | refine tv_iald 45 (tr22 hT) _ rfl (by omega) (by omega) dX0_give_44 rfl ?_ | refine tv_iald 45 (tr22 hT) (Int.toNat _) (by omega) (by omega) (by omega) dX0_give_44 rfl ?_
          refine ev_ald0 46 dX0_give_45 rfl ?_
          refine ev_getfield 49 3 4 fl_X0_21_3 (tr17 hT) rfl dX0_give_46 rfl ?_
          refine ev_ild4 51 dX0_give_49 rfl ?_
          first | refine tv_iald 52 (tr21 hT) _ rfl (by omega) (by omega) dX0_give_51 rfl ?_ | refine tv_iald 52 (tr21 hT) (Int.toNat _) (by omega) (by omega) (by omega) dX0_give_51 rfl ?_
          refine tj_icmp_ge 63 55 dX0_give_52 (by decide) rfl (by first | exact TR.rng hT _ _ _ | exact R31_of _ | exact bi_R _ | (constructor <;> omega)) (by first | exact TR.rng hT _ _ _ | exact R31_of _ | exact bi_R _ | (constructor <;> omega)) (fun c52 => ?_) (fun c52 => ?_)
          · skip
            have hfull : X 22 0 k = X 21 0 k := by have := hle k hkm; rw [p22, p21] at c52; omega
            refine tj_iconst 64 dX0_give_63 rfl ?_
            refine ev_ist5 66 dX0_give_64 rfl (by decide) rfl ?_
            have lp66 : ∀ (n66 : Nat) (c2 L2 : Nat) (z2 : Int) (z5 : Int)  (h : AH) (X3 : XM), 21 - c2 < n66 → (c2 ≤ 20) → (L2 ≤ m) → z2 = (L2 : Int) → z5 = (c2 : Int) → TR g α ν X3 h → ((∀ kk, kk ≠ 24 → kk ≠ 25 → X3 kk = X kk) ∧ SQ m ft (X 23 0) c (X3 24 0) (X3 25 0) L2 ∧ L ≤ L2 ∧ (∀ i, i < L → X3 24 0 i = X2 24 0 i) ∧ (∀ j, j < m → X2 25 0 j ≠ -1 → X3 25 0 j ≠ -1) ∧ ∀ c9, c9 < c2 → X 23 0 c9 = (k : Int) → ∀ j, j < m → ft c9 j = true → X3 25 0 j ≠ -1) → Ev g M_X0_give 2 66 [some (.ref (α 17 0)), some (.int (J (c : Int))), some (.int (J z2)), some (.int (J (n : Int))), some (.int (J (k : Int))), some (.int (J z5))] [] h 0 0 (EB g α ν (fun b X' => (∀ kk, kk ≠ 22 → kk ≠ 23 → kk ≠ 24 → kk ≠ 25 → X' kk = X kk) ∧ (b = true → GR m ft (X 21 0) (X 23 0) (X 22 0) c (X' 23 0) (X' 22 0)) ∧ (b = false → X' 23 = X 23 ∧ X' 22 = X 22 ∧ ∃ F, CL m ft (X 21 0) F (X 23 0) (X 22 0) ∧ ∀ k, k < m → ft c k = true → F k = true))) := by
              intro n66
              induction n66 with
              | zero => intro c2 L2 z2 z5 h X3 hm; exact absurd hm (Nat.not_lt_zero _)
              | succ n66 ih66 =>
                intro c2 L2 z2 z5 h X3 hm66 hc2 hLm2 e2 e5 hT hI
                subst e2
                subst e5
                obtain ⟨p3, hS3, hLL, hfp, hcm, hcl⟩ := hI
                have p23 := p3 23 (by decide) (by decide)
                have hA3 : AU X3 m it nd ft := AU_f hA (fun kk _ _ _ q1 q2 => p3 kk q1 q2)
                rw [← p23] at hS3
                refine ev_ild5 68 dX0_give_66 rfl ?_
                refine tj_bipush 70 dX0_give_68 (by decide) rfl ?_
                refine tj_icmp_ge 99 73 dX0_give_70 (by decide) rfl (by first | exact TR.rng hT _ _ _ | exact R31_of _ | exact bi_R _ | (constructor <;> omega)) (by first | exact TR.rng hT _ _ _ | exact R31_of _ | exact bi_R _ | (constructor <;> omega)) (fun c70 => ?_) (fun c70 => ?_)
                · skip
                  have hIn : (∀ kk, kk ≠ 24 → kk ≠ 25 → X3 kk = X kk) ∧ SQ m ft (X 23 0) c (X3 24 0) (X3 25 0) L2 ∧ (∀ j, j < m → ft c j = true → X3 25 0 j ≠ -1) ∧ PR m ft (X 21 0) (X 23 0) (X 22 0) (X3 24 0) (X3 25 0) (n + 1) ∧ n + 1 ≤ L2 := ⟨p3, p23 ▸ hS3, fun j hj q => hcm j hj (hJ2 j hj q), PR_s (PR_mono hPR (fun i hi => hfp i (by omega)) hcm) (by rw [hfp n hnL2]; exact hfk) hfull (fun c9 h9 => hcl c9 (by omega)), by omega⟩
                  refine tj_inc3 102 dX0_give_99 rfl (by decide) rfl ?_
                  refine ev_goto 17 dX0_give_102 (by decide) ?_
                  exact ih17 (n + 1) (L2) _ _ _ _ _ _ (by omega) (by first | omega | assumption | skip) (by first | rfl | omega | (omega)) (by first | rfl | omega | (omega)) hT (by first | assumption | (first | exact hI0 | exact hIn))
                · skip
                  refine ev_ald0 74 dX0_give_73 rfl ?_
                  refine ev_getfield 77 3 6 fl_X0_27_3 (tr17 hT) rfl dX0_give_74 rfl ?_
                  refine ev_ild5 79 dX0_give_77 rfl ?_
                  refine tv_iald 80 (tr23 hT) (c2) (by omega) (by omega) (by omega) dX0_give_79 rfl ?_
                  refine ev_ild4 82 dX0_give_80 rfl ?_
                  refine tj_icmp_ne 93 85 dX0_give_82 (by decide) rfl (by first | exact TR.rng hT _ _ _ | exact R31_of _ | exact bi_R _ | (constructor <;> omega)) (by first | exact TR.rng hT _ _ _ | exact R31_of _ | exact bi_R _ | (constructor <;> omega)) (fun c82 => ?_) (fun c82 => ?_)
                  · skip
                    obtain ⟨L9, hL9⟩ : ∃ z : Nat, z = L2 := ⟨L2, rfl⟩
                    have hI9 : (∀ kk, kk ≠ 24 → kk ≠ 25 → X3 kk = X kk) ∧ SQ m ft (X 23 0) c (X3 24 0) (X3 25 0) L9 ∧ L ≤ L9 ∧ (∀ i, i < L → X3 24 0 i = X2 24 0 i) ∧ (∀ j, j < m → X2 25 0 j ≠ -1 → X3 25 0 j ≠ -1) ∧ ∀ c9, c9 < c2 + 1 → X 23 0 c9 = (k : Int) → ∀ j, j < m → ft c9 j = true → X3 25 0 j ≠ -1 := by rw [hL9]; exact ⟨p3, p23 ▸ hS3, hLL, hfp, hcm, fun c9 h9 e => by by_cases z : c9 = c2; (rw [z, ← p23] at e; exact absurd e c82); exact hcl c9 (by omega) e⟩
                    refine tj_inc5 96 dX0_give_93 rfl (by decide) rfl ?_
                    refine ev_goto 66 dX0_give_96 (by decide) ?_
                    exact ih66 (c2 + 1) (L9) _ _ _ _ (by omega) (by first | omega | assumption | exact SQ_L hI9.2.1) (by first | omega | assumption | exact SQ_L hI9.2.1) (by first | rfl | omega | (omega)) (by first | rfl | omega | (omega)) hT (by first | assumption | (first | exact ⟨p2, hS2, Nat.le_refl L, fun _ _ => rfl, fun _ _ q => q, fun c9 h9 => absurd h9 (Nat.not_lt_zero c9)⟩ | exact hI9))
                  · skip
                    have hc2k : X 23 0 c2 = (k : Int) := by rw [← p23]; exact c82
                    refine ev_ald0 86 dX0_give_85 rfl ?_
                    refine ev_ild5 88 dX0_give_86 rfl ?_
                    refine ev_ild2 89 dX0_give_88 rfl ?_
                    refine te_V2 92 3 dX0_give_89 lkv_X0_101 (tr17 hT) rfl rfl (by first | decide | omega) (Nat.le_of_ble_eq_true rfl) (c_X0_findSlotsFor hT hA3 hm (c := c2) (x := c) (L0 := L2) (by omega) hS3 (Or.inr ⟨n, by omega, by rw [p23, hc2k, hfp n (by omega), hfk]⟩)) (fun h X1 v89 hT hP89 => ?_)
                    obtain ⟨L9, hvL, hF9, hJ9⟩ := hP89
                    subst hvL
                    obtain ⟨w1, w2, w3, w4, w5⟩ := hF9
                    have hI9 : (∀ kk, kk ≠ 24 → kk ≠ 25 → X1 kk = X kk) ∧ SQ m ft (X 23 0) c (X1 24 0) (X1 25 0) L9 ∧ L ≤ L9 ∧ (∀ i, i < L → X1 24 0 i = X2 24 0 i) ∧ (∀ j, j < m → X2 25 0 j ≠ -1 → X1 25 0 j ≠ -1) ∧ ∀ c9, c9 < c2 + 1 → X 23 0 c9 = (k : Int) → ∀ j, j < m → ft c9 j = true → X1 25 0 j ≠ -1 := ⟨fun kk q1 q2 => by rw [w1 kk q1 q2]; exact p3 kk q1 q2, by rw [← p23]; exact w2, by omega, fun i hi => by rw [w4 i (by omega)]; exact hfp i hi, fun j hj q => w5 j hj (hcm j hj q), fun c9 h9 e j hj q => by by_cases z : c9 = c2; (rw [z] at q; exact hJ9 j hj q); exact w5 j hj (hcl c9 (by omega) e j hj q)⟩
                    refine ev_ist2 93 dX0_give_92 rfl (by decide) rfl ?_
                    refine tj_inc5 96 dX0_give_93 rfl (by decide) rfl ?_
                    refine ev_goto 66 dX0_give_96 (by decide) ?_
                    exact ih66 (c2 + 1) (L9) _ _ _ _ (by omega) (by first | omega | assumption | exact SQ_L hI9.2.1) (by first | omega | assumption | exact SQ_L hI9.2.1) (by first | rfl | omega | (omega)) (by first | rfl | omega | (omega)) hT (by first | assumption | (first | exact ⟨p2, hS2, Nat.le_refl L, fun _ _ => rfl, fun _ _ q => q, fun c9 h9 => absurd h9 (Nat.not_lt_zero c9)⟩ | exact hI9))
            exact lp66 _ (0) (L) _ _ _ _ (Nat.lt_succ_self _) (by first | omega | assumption | exact SQ_L hI9.2.1) (by first | omega | assumption | exact SQ_L hI9.2.1) (by first | rfl | omega | (omega)) (by first | rfl | omega | (omega)) hT (by first | assumption | (first | exact ⟨p2, hS2, Nat.le_refl L, fun _ _ => rfl, fun _ _ q => q, fun c9 h9 => absurd h9 (Nat.not_lt_zero c9)⟩ | exact hI9))
          · skip
            have hA2 : AU X2 m it nd ft := AU_f hA (fun kk _ _ _ q1 q2 => p2 kk q1 q2)
            rw [← p23] at hS2
            refine ev_ald0 56 dX0_give_55 rfl ?_
            refine ev_ild4 58 dX0_give_56 rfl ?_
            refine tmv_V1 61 3 dX0_give_58 lkv_X0_105 (tr17 hT) rfl rfl (by first | decide | omega) (Nat.le_of_ble_eq_true rfl) (c_X0_handOn hT hA2 hm (x := c) (L := L) (n := n) hc hS2 (p23 ▸ hV) (by rw [p23, p22]; exact hC) (by rw [p22, p21]; exact hle) (by rw [p23]; exact hx) (by omega) hfk hkm (by omega)) (fun h X1 hT hP58 => ?_)
            refine tj_iconst 62 dX0_give_61 rfl ?_
            exact tz_retE (b := true) (by first | rfl | omega | exact bi_dt (by omega) | exact bi_df (by omega) | (skip)) hT (by exact ⟨fun kk q1 q2 q3 q4 => by rw [hP58.1 kk q1 q2]; exact p2 kk q3 q4, fun _ => by rw [← p21, ← p22, ← p23]; exact hP58.2, fun q => by cases q⟩) rfl dX0_give_62
  exact lp17 _ (0) (L0) _ _ _ _ _ _ (Nat.lt_succ_self _) (by first | omega | assumption | skip) (by first | rfl | omega | (omega)) (by first | rfl | omega | (omega)) hT (by first | assumption | (first | exact hI0 | exact hIn))
set_option maxRecDepth 100000 in
set_option maxHeartbeats 4000000 in
theorem c_X0_giveFrom {g : Gt} {α : AL} {ν : Nat → Nat → Bool} {X : XM} {h : AH} (hT : TR g α ν X h) {m : Nat} {it : Nat → Nat} {nd : Nat → Int} {ft : Nat → Nat → Bool} (hA : AU X m it nd ft) (hm : m ≤ 4) {fr : Nat} (hfr : fr ≤ 20) (hr0 : ∀ k, k < m → 0 ≤ X 21 0 k) : Me g α ν M_X0_giveFrom 3 [.ref (α 17 0), .int (J (fr : Int))] h (fun v X' => (∀ kk, kk ≠ 22 → kk ≠ 23 → kk ≠ 24 → kk ≠ 25 → X' kk = X kk) ∧ GS m ft (X 21 0) fr 20 (X' 23 0) (X' 22 0) v) := by
  refine me_of rfl rfl (ls := [some (.ref (α 17 0)), some (.int (J (fr : Int))), none, none]) rfl (Nat.le_of_ble_eq_true rfl) ?_
  show Ev g M_X0_giveFrom 3 0 [some (.ref (α 17 0)), some (.int (J (fr : Int))), none, none] [] h 0 0 (EQ g α ν (fun v X' => (∀ kk, kk ≠ 22 → kk ≠ 23 → kk ≠ 24 → kk ≠ 25 → X' kk = X kk) ∧ GS m ft (X 21 0) fr 20 (X' 23 0) (X' 22 0) v))
  have a1 := hA.1
  refine ev_ald0 1 dX0_giveFrom_0 rfl ?_
  refine ev_getfield 4 3 6 fl_X0_27_3 (tr17 hT) rfl dX0_giveFrom_1 rfl ?_
  refine tj_iconst 5 dX0_giveFrom_4 rfl ?_
  refine tmv_S2 8 dX0_giveFrom_5 lks_X0_44 rfl (by first | decide | omega) (Nat.le_of_ble_eq_true rfl) (fill_c hT (tv23 hT) (fun _ => rfl) (L := 20) (by omega) (by constructor <;> omega)) (fun h X1 hT hP5 => ?_)
  have hP5b : X1 = xw X 23 0 (fun j => if j < 20 then -1 else X 23 0 j) := hP5
  have hfX : ∀ kk, kk ≠ 23 → X1 kk = X kk := fun kk q => by rw [hP5b]; funext i; exact xw_ne (fun z => q z.1)
  have hf23 : X1 23 0 = fun j => if j < 20 then -1 else X 23 0 j := by rw [hP5b, xw_at]
  obtain ⟨XA, hXA⟩ : ∃ Z, Z = X1 := ⟨_, rfl⟩
  rw [← hXA] at hT hfX hf23
  refine ev_ald0 9 dX0_giveFrom_8 rfl ?_
  refine ev_getfield 12 3 5 fl_X0_24_3 (tr17 hT) rfl dX0_giveFrom_9 rfl ?_
  refine tj_iconst 13 dX0_giveFrom_12 rfl ?_
  refine tmv_S2 16 dX0_giveFrom_13 lks_X0_44 rfl (by first | decide | omega) (Nat.le_of_ble_eq_true rfl) (fill_c hT (tv22 hT) (fun _ => rfl) (L := 4) (by omega) R31_0) (fun h X1 hT hP13 => ?_)
  have hP13b : X1 = xw XA 22 0 (fun j => if j < 4 then 0 else XA 22 0 j) := hP13
  have hI0 : (∀ kk, kk ≠ 22 → kk ≠ 23 → kk ≠ 24 → kk ≠ 25 → X1 kk = X kk) ∧ GS m ft (X 21 0) fr fr (X1 23 0) (X1 22 0) 0 := ⟨fun kk q1 q2 q3 q4 => by rw [hP13b]; funext i; rw [xw_ne (fun z => q1 z.1)]; exact congrFun (hfX kk q2) i, GS_0 (fun c hc => by rw [hP13b, xw_ne (by omega), hf23]; exact if_pos hc) (fun k hk => by rw [hP13b, xw_at]; exact if_pos (by omega)) hr0⟩
  refine tj_iconst 17 dX0_giveFrom_16 rfl ?_
  refine ev_ist2 18 dX0_giveFrom_17 rfl (by decide) rfl ?_
  refine ev_ild1 19 dX0_giveFrom_18 rfl ?_
  refine ev_ist3 20 dX0_giveFrom_19 rfl (by decide) rfl ?_
  have lp20 : ∀ (n20 : Nat) (c : Nat) (v : Int) (z2 : Int) (z3 : Int)  (h : AH) (X2 : XM), 21 - c < n20 → (fr ≤ c) → (c ≤ 20) → z2 = v → z3 = (c : Int) → TR g α ν X2 h → ((∀ kk, kk ≠ 22 → kk ≠ 23 → kk ≠ 24 → kk ≠ 25 → X2 kk = X kk) ∧ GS m ft (X 21 0) fr c (X2 23 0) (X2 22 0) v) → Ev g M_X0_giveFrom 3 20 [some (.ref (α 17 0)), some (.int (J (fr : Int))), some (.int (J z2)), some (.int (J z3))] [] h 0 0 (EQ g α ν (fun v X' => (∀ kk, kk ≠ 22 → kk ≠ 23 → kk ≠ 24 → kk ≠ 25 → X' kk = X kk) ∧ GS m ft (X 21 0) fr 20 (X' 23 0) (X' 22 0) v)) := by
    intro n20
    induction n20 with
    | zero => intro c v z2 z3 h X2 hm; exact absurd hm (Nat.not_lt_zero _)
    | succ n20 ih20 =>
      intro c v z2 z3 h X2 hm20 hc1 hc2 e2 e3 hT hI
      subst e2
      subst e3
      obtain ⟨p2, hG⟩ := hI
      have p21 := p2 21 (by decide) (by decide) (by decide) (by decide)
      have hA2 : AU X2 m it nd ft := AU_f hA (fun kk _ q1 q2 q3 q4 => p2 kk q1 q2 q3 q4)
      have hv : z2 = cnt (fun c => decide (X2 23 0 c ≠ -1)) 20 := hG.2.2.2.2.1
      have hvR := cnt_0 (fun c => decide (X2 23 0 c ≠ -1)) 20
      refine ev_ild3 21 dX0_giveFrom_20 rfl ?_
      refine tj_bipush 23 dX0_giveFrom_21 (by decide) rfl ?_
      refine tj_icmp_ge 52 26 dX0_giveFrom_23 (by decide) rfl (by first | exact TR.rng hT _ _ _ | exact R31_of _ | exact bi_R _ | (constructor <;> omega)) (by first | exact TR.rng hT _ _ _ | exact R31_of _ | exact bi_R _ | (constructor <;> omega)) (fun c23 => ?_) (fun c23 => ?_)
      · skip
        refine ev_ild2 53 dX0_giveFrom_52 rfl ?_
        exact ev_ireturn ⟨_, _, rfl, hT, (by exact ⟨p2, (show c = 20 by omega) ▸ hG⟩)⟩ rfl dX0_giveFrom_53
      · skip
        refine ev_ald0 27 dX0_giveFrom_26 rfl ?_
        refine ev_getfield 30 3 3 fl_X0_18_3 (tr17 hT) rfl dX0_giveFrom_27 rfl ?_
        refine ev_ild3 31 dX0_giveFrom_30 rfl ?_
        refine tv_iald 32 (tr20 hT) (c) (by omega) (by omega) (by omega) dX0_giveFrom_31 rfl ?_
        refine tj_if_eq 46 35 dX0_giveFrom_32 (by decide) rfl (by first | exact TR.rng hT _ _ _ | exact R31_of _ | exact bi_R _ | (constructor <;> omega)) (fun c32 => ?_) (fun c32 => ?_)
        · skip
          have hb := hA2.2.2 c (by omega)
          rw [c32] at hb
          obtain ⟨v9, h9⟩ : ∃ v9 : Int, z2 = v9 ∧ (∀ kk, kk ≠ 22 → kk ≠ 23 → kk ≠ 24 → kk ≠ 25 → X2 kk = X kk) ∧ GS m ft (X 21 0) fr (c + 1) (X2 23 0) (X2 22 0) v9 := ⟨z2, rfl, p2, GS_skip hG (fun k hk => by have q : (decide (k < m) && ft c k) = false := bts_0 hb (by omega); rw [decide_eq_true hk, Bool.true_and] at q; exact q)⟩
          refine tj_inc3 49 dX0_giveFrom_46 rfl (by decide) rfl ?_
          refine ev_goto 20 dX0_giveFrom_49 (by decide) ?_
          exact ih20 (c + 1) (v9) _ _ _ _ (by omega) (by first | omega | assumption | omega) (by first | omega | assumption | omega) (by first | rfl | omega | (exact h9.1)) (by first | rfl | omega | (exact h9.1)) hT (by first | assumption | (first | exact hI0 | exact h9.2))
        · skip
          refine ev_ald0 36 dX0_giveFrom_35 rfl ?_
          refine ev_ild3 37 dX0_giveFrom_36 rfl ?_
          refine tg_V1 40 3 dX0_giveFrom_37 lkv_X0_97 (tr17 hT) rfl rfl (by first | decide | omega) (Nat.le_of_ble_eq_true rfl) (c_X0_give hT hA2 hm (c := c) (by omega) hG.1 hG.2.1 (p21 ▸ hG.2.2.1) (hG.2.2.2.1 c (by omega) (Or.inr (Nat.le_refl c)))) (fun h X1 v37 hT hP37 => ?_)
          obtain ⟨g1, g2, g3⟩ := hP37
          refine tb_if_eq 46 43 dX0_giveFrom_40 (by decide) rfl (fun c40 => ?_) (fun c40 => ?_)
          · skip
            obtain ⟨e1, e2, F, e3, e4⟩ := g3 c40
            obtain ⟨v9, h9⟩ : ∃ v9 : Int, z2 = v9 ∧ (∀ kk, kk ≠ 22 → kk ≠ 23 → kk ≠ 24 → kk ≠ 25 → X1 kk = X kk) ∧ GS m ft (X 21 0) fr (c + 1) (X1 23 0) (X1 22 0) v9 := ⟨z2, rfl, fun kk q1 q2 q3 q4 => by rw [g1 kk q1 q2 q3 q4]; exact p2 kk q1 q2 q3 q4, by rw [e1, e2]; rw [p21] at e3; exact GS_no hG e3 e4⟩
            refine tj_inc3 49 dX0_giveFrom_46 rfl (by decide) rfl ?_
            refine ev_goto 20 dX0_giveFrom_49 (by decide) ?_
            exact ih20 (c + 1) (v9) _ _ _ _ (by omega) (by first | omega | assumption | omega) (by first | omega | assumption | omega) (by first | rfl | omega | (exact h9.1)) (by first | rfl | omega | (exact h9.1)) hT (by first | assumption | (first | exact hI0 | exact h9.2))
          · skip
            obtain ⟨v9, h9⟩ : ∃ v9 : Int, z2 + 1 = v9 ∧ (∀ kk, kk ≠ 22 → kk ≠ 23 → kk ≠ 24 → kk ≠ 25 → X1 kk = X kk) ∧ GS m ft (X 21 0) fr (c + 1) (X1 23 0) (X1 22 0) v9 := ⟨z2 + 1, rfl, fun kk q1 q2 q3 q4 => by rw [g1 kk q1 q2 q3 q4]; exact p2 kk q1 q2 q3 q4, by have q := g2 c40; rw [p21] at q; exact GS_yes (by omega) hc1 hG q⟩
            refine tj_inc2 46 dX0_giveFrom_43 rfl (by decide) rfl ?_
            refine tj_inc3 49 dX0_giveFrom_46 rfl (by decide) rfl ?_
            refine ev_goto 20 dX0_giveFrom_49 (by decide) ?_
            exact ih20 (c + 1) (v9) _ _ _ _ (by omega) (by first | omega | assumption | omega) (by first | omega | assumption | omega) (by first | rfl | omega | (exact h9.1)) (by first | rfl | omega | (exact h9.1)) hT (by first | assumption | (first | exact hI0 | exact h9.2))
  exact lp20 _ (fr) (0) _ _ _ _ (Nat.lt_succ_self _) (by first | omega | assumption | omega) (by first | omega | assumption | omega) (by first | rfl | omega | (exact h9.1)) (by first | rfl | omega | (exact h9.1)) hT (by first | assumption | (first | exact hI0 | exact h9.2))
