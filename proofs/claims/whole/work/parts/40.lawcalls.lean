/-! THE LAW'S OWN CALLS: a call of the class in a try, its answer or its exception's number -/
section RU7
variable {g : Gt} {α : AL} {ν : Nat → Nat → Bool} {X : XM} {M M2 : Mt} {d d1 pc : Nat} {ls : List (Option Value)} {st : List Value} {h : AH} {mc ms mc1 ms1 : Nat} {Q : RT → AH → Prop}
theorem xv_catch {E name : String} {s0 e0 hp ct : Nat} (pre suf : List (Nat × Nat × Nat × Nat)) (hs : mH M = pre ++ (s0, e0, hp, ct) :: suf) (hpass : ∀ z ∈ pre, z.2.2.2 ≠ 0 ∧ ∃ nm : String, Cond.classLink (mY M).cls z.2.2.2 nm ∈ lw_tbl ∧ (E, nm) ∈ lw_ncs) (hcov : s0 ≤ pc ∧ pc < e0) (h0 : ct ≠ 0)
    (hl : Cond.classLink (mY M).cls ct name ∈ lw_tbl) (hc : Cond.castable E name ∈ lw_tbl) (kk : ∀ q, Ev g M d hp ls [.ref q] h mc ms Q) : Xv g M d pc ls E h mc ms Q := by
  intro p e s m args below meth c H locs cells slots lsA tc ts rest q ce hM hS hL h1 h2 hce hv hf
  have hC := hM.2.2.2.2.2.2.2.2
  have htab : c.exceptionTable.toList = tableOf (mH M) := hM.2.2.2.2.2.2.2.1
  refine vx_catch (own := (mY M).cls) (name := name) (E := E) (ce := ce) hM.2.2.2.1 (tableOf pre) ⟨s0, e0, hp, ct⟩ (tableOf suf) (by rw [htab, hs]; unfold tableOf; rw [List.map_append]; rfl) (fun z hz => ?_) (by show (decide (s0 ≤ pc) && decide (pc < e0)) = true; simp [hcov.1, hcov.2]) h0 (AW.at hC hl rfl) (AW.at hC hc rfl) hce hv hf ?_
  · obtain ⟨y, hy, rfl⟩ := List.mem_map.mp hz
    obtain ⟨a1, nm, a2, a3⟩ := hpass y hy
    exact Or.inr ⟨a1, nm, AW.at hC a2 rfl, hC.1.2.2.2.2.2.2.2.2.2.1 _ a3⟩
  · exact kk q p e s m args below meth c H locs cells slots lsA tc ts hM hS hL h1 h2
/-- a contract that may make cells -/
def Al (g : Gt) (M : Mt) (d : Nat) (av : List Value) (h : AH) (mc ms : Nat) (v : Option Value) (P : AL → (Nat → Nat → Bool) → XM → Prop) : Prop := Ct g M d av h mc ms (fun r h' => r = .inl v ∧ ∃ α' ν' X', TR g α' ν' X' h' ∧ P α' ν' X')
theorem al_of_mu {v : Option Value} {av : List Value} {P : XM → Prop} (c : Mu g α ν M d av h v P) : Al g M d av h 0 0 v (fun α' ν' X' => α' = α ∧ ν' = ν ∧ P X') :=
  ct_weaken c (fun r h' hq => by obtain ⟨e1, X', e2, e3⟩ := hq; exact ⟨e1, α, ν, X', e2, rfl, rfl, e3⟩)
theorem al_of_pr {v : Option Value} {av : List Value} (hT : TR g α ν X h) (c : Pr g M d av h v) : Al g M d av h 0 0 v (fun α' ν' X' => α' = α ∧ ν' = ν ∧ X' = X) :=
  ct_weaken c (fun r h' hq => by obtain ⟨e1, rfl⟩ := hq; exact ⟨e1, α, ν, X, hT, rfl, rfl, rfl⟩)
theorem al_mono {v : Option Value} {av : List Value} {P P' : AL → (Nat → Nat → Bool) → XM → Prop} (c : Al g M d av h mc ms v P) (hP : ∀ a n x, P a n x → P' a n x) : Al g M d av h mc ms v P' :=
  ct_weaken c (fun r h' hq => by obtain ⟨e1, α', ν', X', e2, e3⟩ := hq; exact ⟨e1, α', ν', X', e2, hP _ _ _ e3⟩)
theorem J_i2l (a : Int) (ha : R31 a) : (J a).toInt64 = Int64.ofInt a := by
  apply Int64.toInt_inj.mp
  rw [Int32.toInt_toInt64, J_toInt ha, Int64.toInt_ofInt_of_le (by have := ha.1; omega) (by have := ha.2; omega)]
theorem tv_last {z : Int} {v : Int} (n : Nat) (hT : TR g α ν X h) (hz : z = 0) (hr : R31 v) (hd : decode (mC M) pc = .ok (.lastore, 1)) (hn : pc + 1 = n) (kk : ∀ h', TR g α ν (xs X 90 0 0 v) h' → Ev g M d n ls st h' mc ms Q) : Ev g M d pc ls (.long (Int64.ofInt v) :: .int (J z) :: .ref (α 90 0) :: st) h mc ms Q := by
  subst hz
  have hv := tv90 hT
  obtain ⟨h1, h2⟩ := hT.1 90 0 hv
  refine ev_lastore n h1 h2 (J_in (j := 0) (n := 1) (by omega) (by omega)) hd hn ?_
  rw [show (J 0).toNatClampNeg = 0 from J_clampN (j := 0) (by omega)]
  refine kk _ ?_
  refine ⟨fun k' i' hv' => ⟨?_, (hT.1 k' i' hv').2⟩, hT.2.1, fun k' i' j' h91 => ?_, hT.2.2.2⟩
  · by_cases e : k' = 90 ∧ i' = 0
    · obtain ⟨rfl, rfl⟩ := e
      rw [hup_eq, xs_fn]
      refine congrArg some ?_
      show _ = ck90 g α 0 _
      unfold ck90
      refine congrArg (fun f => (Sum.inl (5, 1, Sum.inr (Sum.inl f)) : AC)) (funext fun j' => ?_)
      unfold vp_updL
      by_cases e2 : j' = 0
      · simp [e2]
      · simp [e2]
    · rw [hup_ne (fun z => e (hT.2.1 k' i' 90 0 hv' hv z)), xs_ne e]
      exact (hT.1 k' i' hv').1
  · rw [xs_all]
    by_cases e : k' = 90 ∧ i' = 0 ∧ j' = 0
    · rw [if_pos e]; exact hr
    · rw [if_neg e]; exact hT.rng k' i' j' h91
theorem ta_V0 {v : Value} {P : AL → (Nat → Nat → Bool) → XM → Prop} {b : Nat} {fs : List Value} {index : Nat} (n ci : Nat) (hd : decode (mC M) pc = .ok (.invokevirtual index, 3)) (L : LKv (mY M).cls index M2 0) (hb : h b = some (.inr (ci, fs))) (hci : vwCl[ci]?.map (·.1) = some (mY M2).cls) (hn : pc + 3 = n) (hd1 : d1 < d) (hcat : (st.map fun v => v.category).sum ≤ 8) (hc : Al g M2 d1 [.ref b] h mc1 ms1 (some v) P) (kk : ∀ h' α' ν' X', TR g α' ν' X' h' → P α' ν' X' → Ev g M d n ls (v :: st) h' mc ms Q) : Ev g M d pc ls (.ref b :: st) h (mc1 + mc) (ms1 + ms) Q :=
  ev_callV n ci L hc hd1 hb hci rfl rfl hcat hd hn (fun v h' hq => by obtain ⟨e1, α', ν', X', e2, e3⟩ := hq; cases e1; exact kk h' α' ν' X' e2 e3) (fun E h' hq => by cases hq.1)
theorem tz_V0 {E : String} {b : Nat} {fs : List Value} {index : Nat} (n ci : Nat) (hd : decode (mC M) pc = .ok (.invokevirtual index, 3)) (L : LKv (mY M).cls index M2 0) (hb : h b = some (.inr (ci, fs))) (hci : vwCl[ci]?.map (·.1) = some (mY M2).cls) (hn : pc + 3 = n) (hd1 : d1 < d) (hcat : (st.map fun v => v.category).sum ≤ 8) (hc : Th g M2 d1 [.ref b] h E) (kx : Xv g M d pc ls E h mc ms Q) : Ev g M d pc ls (.ref b :: st) h (1 + mc) (6 + ms) Q :=
  ev_callV n ci L hc hd1 hb hci rfl rfl hcat hd hn (fun v h' hq => by cases hq.1) (fun E h' hq2 => by obtain ⟨e1, rfl⟩ := hq2; cases e1; exact kx)
theorem ta_V1 {x0 : Value} {v : Value} {P : AL → (Nat → Nat → Bool) → XM → Prop} {b : Nat} {fs : List Value} {index : Nat} (n ci : Nat) (hd : decode (mC M) pc = .ok (.invokevirtual index, 3)) (L : LKv (mY M).cls index M2 1) (hb : h b = some (.inr (ci, fs))) (hci : vwCl[ci]?.map (·.1) = some (mY M2).cls) (hn : pc + 3 = n) (hd1 : d1 < d) (hcat : (st.map fun v => v.category).sum ≤ 8) (hc : Al g M2 d1 [.ref b, x0] h mc1 ms1 (some v) P) (kk : ∀ h' α' ν' X', TR g α' ν' X' h' → P α' ν' X' → Ev g M d n ls (v :: st) h' mc ms Q) : Ev g M d pc ls (x0 :: .ref b :: st) h (mc1 + mc) (ms1 + ms) Q :=
  ev_callV n ci L hc hd1 hb hci rfl rfl hcat hd hn (fun v h' hq => by obtain ⟨e1, α', ν', X', e2, e3⟩ := hq; cases e1; exact kk h' α' ν' X' e2 e3) (fun E h' hq => by cases hq.1)
theorem tz_V1 {x0 : Value} {E : String} {b : Nat} {fs : List Value} {index : Nat} (n ci : Nat) (hd : decode (mC M) pc = .ok (.invokevirtual index, 3)) (L : LKv (mY M).cls index M2 1) (hb : h b = some (.inr (ci, fs))) (hci : vwCl[ci]?.map (·.1) = some (mY M2).cls) (hn : pc + 3 = n) (hd1 : d1 < d) (hcat : (st.map fun v => v.category).sum ≤ 8) (hc : Th g M2 d1 [.ref b, x0] h E) (kx : Xv g M d pc ls E h mc ms Q) : Ev g M d pc ls (x0 :: .ref b :: st) h (1 + mc) (6 + ms) Q :=
  ev_callV n ci L hc hd1 hb hci rfl rfl hcat hd hn (fun v h' hq => by cases hq.1) (fun E h' hq2 => by obtain ⟨e1, rfl⟩ := hq2; cases e1; exact kx)
theorem ta_V2 {x0 x1 : Value} {v : Value} {P : AL → (Nat → Nat → Bool) → XM → Prop} {b : Nat} {fs : List Value} {index : Nat} (n ci : Nat) (hd : decode (mC M) pc = .ok (.invokevirtual index, 3)) (L : LKv (mY M).cls index M2 2) (hb : h b = some (.inr (ci, fs))) (hci : vwCl[ci]?.map (·.1) = some (mY M2).cls) (hn : pc + 3 = n) (hd1 : d1 < d) (hcat : (st.map fun v => v.category).sum ≤ 8) (hc : Al g M2 d1 [.ref b, x0, x1] h mc1 ms1 (some v) P) (kk : ∀ h' α' ν' X', TR g α' ν' X' h' → P α' ν' X' → Ev g M d n ls (v :: st) h' mc ms Q) : Ev g M d pc ls (x1 :: x0 :: .ref b :: st) h (mc1 + mc) (ms1 + ms) Q :=
  ev_callV n ci L hc hd1 hb hci rfl rfl hcat hd hn (fun v h' hq => by obtain ⟨e1, α', ν', X', e2, e3⟩ := hq; cases e1; exact kk h' α' ν' X' e2 e3) (fun E h' hq => by cases hq.1)
theorem tz_V2 {x0 x1 : Value} {E : String} {b : Nat} {fs : List Value} {index : Nat} (n ci : Nat) (hd : decode (mC M) pc = .ok (.invokevirtual index, 3)) (L : LKv (mY M).cls index M2 2) (hb : h b = some (.inr (ci, fs))) (hci : vwCl[ci]?.map (·.1) = some (mY M2).cls) (hn : pc + 3 = n) (hd1 : d1 < d) (hcat : (st.map fun v => v.category).sum ≤ 8) (hc : Th g M2 d1 [.ref b, x0, x1] h E) (kx : Xv g M d pc ls E h mc ms Q) : Ev g M d pc ls (x1 :: x0 :: .ref b :: st) h (1 + mc) (6 + ms) Q :=
  ev_callV n ci L hc hd1 hb hci rfl rfl hcat hd hn (fun v h' hq => by cases hq.1) (fun E h' hq2 => by obtain ⟨e1, rfl⟩ := hq2; cases e1; exact kx)
theorem ta_V3 {x0 x1 x2 : Value} {v : Value} {P : AL → (Nat → Nat → Bool) → XM → Prop} {b : Nat} {fs : List Value} {index : Nat} (n ci : Nat) (hd : decode (mC M) pc = .ok (.invokevirtual index, 3)) (L : LKv (mY M).cls index M2 3) (hb : h b = some (.inr (ci, fs))) (hci : vwCl[ci]?.map (·.1) = some (mY M2).cls) (hn : pc + 3 = n) (hd1 : d1 < d) (hcat : (st.map fun v => v.category).sum ≤ 8) (hc : Al g M2 d1 [.ref b, x0, x1, x2] h mc1 ms1 (some v) P) (kk : ∀ h' α' ν' X', TR g α' ν' X' h' → P α' ν' X' → Ev g M d n ls (v :: st) h' mc ms Q) : Ev g M d pc ls (x2 :: x1 :: x0 :: .ref b :: st) h (mc1 + mc) (ms1 + ms) Q :=
  ev_callV n ci L hc hd1 hb hci rfl rfl hcat hd hn (fun v h' hq => by obtain ⟨e1, α', ν', X', e2, e3⟩ := hq; cases e1; exact kk h' α' ν' X' e2 e3) (fun E h' hq => by cases hq.1)
theorem tz_V3 {x0 x1 x2 : Value} {E : String} {b : Nat} {fs : List Value} {index : Nat} (n ci : Nat) (hd : decode (mC M) pc = .ok (.invokevirtual index, 3)) (L : LKv (mY M).cls index M2 3) (hb : h b = some (.inr (ci, fs))) (hci : vwCl[ci]?.map (·.1) = some (mY M2).cls) (hn : pc + 3 = n) (hd1 : d1 < d) (hcat : (st.map fun v => v.category).sum ≤ 8) (hc : Th g M2 d1 [.ref b, x0, x1, x2] h E) (kx : Xv g M d pc ls E h mc ms Q) : Ev g M d pc ls (x2 :: x1 :: x0 :: .ref b :: st) h (1 + mc) (6 + ms) Q :=
  ev_callV n ci L hc hd1 hb hci rfl rfl hcat hd hn (fun v h' hq => by cases hq.1) (fun E h' hq2 => by obtain ⟨e1, rfl⟩ := hq2; cases e1; exact kx)
end RU7
abbrev M_L_addCourse : Mt := (yL_addCourse, cL_addCourse, 5, (Option.some Jvm.ClassFile.FieldType.int), [(0, 10, 13, 13), (0, 10, 17, 15)])
set_option maxRecDepth 100000 in
set_option maxHeartbeats 4000000 in
theorem w_addCourse_ok {g : Gt} {α : AL} {ν : Nat → Nat → Bool} {X : XM} {h : AH} (hT : TR g α ν X h) {p0 p1 : Int} {z : Int} (hz : R31 z) {P : AL → (Nat → Nat → Bool) → XM → Prop} {mc ms : Nat} (hA : ∀ a n x, P a n x → a 90 0 = α 90 0) (hc : Al g M_X11_addCourse 28 [.ref (α 0 0), .int (J p0), .int (J p1)] h mc ms (some (.int (J z))) P) : Al g M_L_addCourse 29 [.ref (α 0 0), .int (J p0), .int (J p1), .ref (α 90 0)] h mc ms (some (.int (J 0))) (fun a n x => ∃ x0, P a n x0 ∧ x = xs x0 90 0 0 z) := by
  refine ct_of_evH rfl rfl (ls := [some (.ref (α 0 0)), some (.int (J p0)), some (.int (J p1)), some (.ref (α 90 0)), none]) rfl (Nat.le_of_ble_eq_true rfl) ?_
  show Ev g M_L_addCourse 29 0 [some (.ref (α 0 0)), some (.int (J p0)), some (.int (J p1)), some (.ref (α 90 0)), none] [] h (mc + 0) (ms + 0) (fun r h' => r = .inl (some (.int (J 0))) ∧ ∃ α' ν' X', TR g α' ν' X' h' ∧ ∃ x0, P α' ν' x0 ∧ X' = xs x0 90 0 0 z)
  refine ev_ald3 1 dL_addCourse_0 rfl ?_
  refine tj_iconst 2 dL_addCourse_1 rfl ?_
  refine ev_ald0 3 dL_addCourse_2 rfl ?_
  refine ev_ild1 4 dL_addCourse_3 rfl ?_
  refine ev_ild2 5 dL_addCourse_4 rfl ?_
  refine ta_V2 8 13 dL_addCourse_5 lkv_L_7 (tr0 hT) rfl rfl (by decide) (Nat.le_of_ble_eq_true rfl) hc (fun h α' ν' X1 hT hP => ?_)
  rw [← hA _ _ _ hP]
  refine ev_i2l 9 dL_addCourse_8 rfl ?_
  rw [J_i2l _ hz]
  refine tv_last 10 hT rfl hz dL_addCourse_9 rfl (fun h hT => ?_)
  refine ev_goto 21 dL_addCourse_10 (by decide) ?_
  refine tj_iconst 22 dL_addCourse_21 rfl ?_
  exact ev_ireturn ⟨rfl, _, _, _, hT, _, hP, rfl⟩ rfl dL_addCourse_22
set_option maxRecDepth 100000 in
set_option maxHeartbeats 4000000 in
theorem w_addCourse_x1 {g : Gt} {α : AL} {ν : Nat → Nat → Bool} {X : XM} {h : AH} (hT : TR g α ν X h) {p0 p1 : Int} (hc : Th g M_X11_addCourse 28 [.ref (α 0 0), .int (J p0), .int (J p1)] h "java/lang/IllegalArgumentException") : Al g M_L_addCourse 29 [.ref (α 0 0), .int (J p0), .int (J p1), .ref (α 90 0)] h 1 6 (some (.int (J 1))) (fun a n x => a = α ∧ n = ν ∧ x = X) := by
  refine ct_of_evH rfl rfl (ls := [some (.ref (α 0 0)), some (.int (J p0)), some (.int (J p1)), some (.ref (α 90 0)), none]) rfl (Nat.le_of_ble_eq_true rfl) ?_
  show Ev g M_L_addCourse 29 0 [some (.ref (α 0 0)), some (.int (J p0)), some (.int (J p1)), some (.ref (α 90 0)), none] [] h (1 + 0) (6 + 0) (fun r h' => r = .inl (some (.int (J 1))) ∧ ∃ α' ν' X', TR g α' ν' X' h' ∧ (α' = α ∧ ν' = ν ∧ X' = X))
  refine ev_ald3 1 dL_addCourse_0 rfl ?_
  refine tj_iconst 2 dL_addCourse_1 rfl ?_
  refine ev_ald0 3 dL_addCourse_2 rfl ?_
  refine ev_ild1 4 dL_addCourse_3 rfl ?_
  refine ev_ild2 5 dL_addCourse_4 rfl ?_
  refine tz_V2 8 13 dL_addCourse_5 lkv_L_7 (tr0 hT) rfl rfl (by decide) (Nat.le_of_ble_eq_true rfl) hc ?_
  refine xv_catch (name := "java/lang/IllegalArgumentException") [] [(0, 10, 17, 15)] rfl (fun z hz => by cases hz) ⟨by decide, by decide⟩ (by decide) (List.mem_of_getElem? (i := 493) (by decide +kernel)) (List.mem_of_getElem? (i := 504) (by decide +kernel)) (fun q => ?_)
  refine ev_ast4 15 dL_addCourse_13 rfl (by decide) rfl ?_
  refine tj_iconst 16 dL_addCourse_15 rfl ?_
  exact ev_ireturn ⟨rfl, _, _, _, hT, rfl, rfl, rfl⟩ rfl dL_addCourse_16
set_option maxRecDepth 100000 in
set_option maxHeartbeats 4000000 in
theorem w_addCourse_x2 {g : Gt} {α : AL} {ν : Nat → Nat → Bool} {X : XM} {h : AH} (hT : TR g α ν X h) {p0 p1 : Int} (hc : Th g M_X11_addCourse 28 [.ref (α 0 0), .int (J p0), .int (J p1)] h "java/lang/IllegalStateException") : Al g M_L_addCourse 29 [.ref (α 0 0), .int (J p0), .int (J p1), .ref (α 90 0)] h 1 6 (some (.int (J 2))) (fun a n x => a = α ∧ n = ν ∧ x = X) := by
  refine ct_of_evH rfl rfl (ls := [some (.ref (α 0 0)), some (.int (J p0)), some (.int (J p1)), some (.ref (α 90 0)), none]) rfl (Nat.le_of_ble_eq_true rfl) ?_
  show Ev g M_L_addCourse 29 0 [some (.ref (α 0 0)), some (.int (J p0)), some (.int (J p1)), some (.ref (α 90 0)), none] [] h (1 + 0) (6 + 0) (fun r h' => r = .inl (some (.int (J 2))) ∧ ∃ α' ν' X', TR g α' ν' X' h' ∧ (α' = α ∧ ν' = ν ∧ X' = X))
  refine ev_ald3 1 dL_addCourse_0 rfl ?_
  refine tj_iconst 2 dL_addCourse_1 rfl ?_
  refine ev_ald0 3 dL_addCourse_2 rfl ?_
  refine ev_ild1 4 dL_addCourse_3 rfl ?_
  refine ev_ild2 5 dL_addCourse_4 rfl ?_
  refine tz_V2 8 13 dL_addCourse_5 lkv_L_7 (tr0 hT) rfl rfl (by decide) (Nat.le_of_ble_eq_true rfl) hc ?_
  refine xv_catch (name := "java/lang/IllegalStateException") [(0, 10, 13, 13)] [] rfl (fun z hz => by rcases (by simpa using hz : z = (0, 10, 13, 13)) with rfl <;> first | exact ⟨by decide, "java/lang/IllegalArgumentException", List.mem_of_getElem? (i := 493) (by decide +kernel), by decide +kernel⟩) ⟨by decide, by decide⟩ (by decide) (List.mem_of_getElem? (i := 494) (by decide +kernel)) (List.mem_of_getElem? (i := 576) (by decide +kernel)) (fun q => ?_)
  refine ev_ast4 19 dL_addCourse_17 rfl (by decide) rfl ?_
  refine tj_iconst 20 dL_addCourse_19 rfl ?_
  exact ev_ireturn ⟨rfl, _, _, _, hT, rfl, rfl, rfl⟩ rfl dL_addCourse_20
abbrev M_L_addRule : Mt := (yL_addRule, cL_addRule, 6, (Option.some Jvm.ClassFile.FieldType.int), [(0, 12, 15, 13), (0, 12, 19, 15)])
set_option maxRecDepth 100000 in
set_option maxHeartbeats 4000000 in
theorem w_addRule_ok {g : Gt} {α : AL} {ν : Nat → Nat → Bool} {X : XM} {h : AH} (hT : TR g α ν X h) {p0 p1 p2 : Int} {z : Int} (hz : R31 z) {P : AL → (Nat → Nat → Bool) → XM → Prop} {mc ms : Nat} (hA : ∀ a n x, P a n x → a 90 0 = α 90 0) (hc : Al g M_X11_addRule 28 [.ref (α 0 0), .int (J p0), .int (J p1), .int (J p2)] h mc ms (some (.int (J z))) P) : Al g M_L_addRule 29 [.ref (α 0 0), .int (J p0), .int (J p1), .int (J p2), .ref (α 90 0)] h mc ms (some (.int (J 0))) (fun a n x => ∃ x0, P a n x0 ∧ x = xs x0 90 0 0 z) := by
  refine ct_of_evH rfl rfl (ls := [some (.ref (α 0 0)), some (.int (J p0)), some (.int (J p1)), some (.int (J p2)), some (.ref (α 90 0)), none]) rfl (Nat.le_of_ble_eq_true rfl) ?_
  show Ev g M_L_addRule 29 0 [some (.ref (α 0 0)), some (.int (J p0)), some (.int (J p1)), some (.int (J p2)), some (.ref (α 90 0)), none] [] h (mc + 0) (ms + 0) (fun r h' => r = .inl (some (.int (J 0))) ∧ ∃ α' ν' X', TR g α' ν' X' h' ∧ ∃ x0, P α' ν' x0 ∧ X' = xs x0 90 0 0 z)
  refine ev_ald4 2 dL_addRule_0 rfl ?_
  refine tj_iconst 3 dL_addRule_2 rfl ?_
  refine ev_ald0 4 dL_addRule_3 rfl ?_
  refine ev_ild1 5 dL_addRule_4 rfl ?_
  refine ev_ild2 6 dL_addRule_5 rfl ?_
  refine ev_ild3 7 dL_addRule_6 rfl ?_
  refine ta_V3 10 13 dL_addRule_7 lkv_L_148 (tr0 hT) rfl rfl (by decide) (Nat.le_of_ble_eq_true rfl) hc (fun h α' ν' X1 hT hP => ?_)
  rw [← hA _ _ _ hP]
  refine ev_i2l 11 dL_addRule_10 rfl ?_
  rw [J_i2l _ hz]
  refine tv_last 12 hT rfl hz dL_addRule_11 rfl (fun h hT => ?_)
  refine ev_goto 23 dL_addRule_12 (by decide) ?_
  refine tj_iconst 24 dL_addRule_23 rfl ?_
  exact ev_ireturn ⟨rfl, _, _, _, hT, _, hP, rfl⟩ rfl dL_addRule_24
set_option maxRecDepth 100000 in
set_option maxHeartbeats 4000000 in
theorem w_addRule_x1 {g : Gt} {α : AL} {ν : Nat → Nat → Bool} {X : XM} {h : AH} (hT : TR g α ν X h) {p0 p1 p2 : Int} (hc : Th g M_X11_addRule 28 [.ref (α 0 0), .int (J p0), .int (J p1), .int (J p2)] h "java/lang/IllegalArgumentException") : Al g M_L_addRule 29 [.ref (α 0 0), .int (J p0), .int (J p1), .int (J p2), .ref (α 90 0)] h 1 6 (some (.int (J 1))) (fun a n x => a = α ∧ n = ν ∧ x = X) := by
  refine ct_of_evH rfl rfl (ls := [some (.ref (α 0 0)), some (.int (J p0)), some (.int (J p1)), some (.int (J p2)), some (.ref (α 90 0)), none]) rfl (Nat.le_of_ble_eq_true rfl) ?_
  show Ev g M_L_addRule 29 0 [some (.ref (α 0 0)), some (.int (J p0)), some (.int (J p1)), some (.int (J p2)), some (.ref (α 90 0)), none] [] h (1 + 0) (6 + 0) (fun r h' => r = .inl (some (.int (J 1))) ∧ ∃ α' ν' X', TR g α' ν' X' h' ∧ (α' = α ∧ ν' = ν ∧ X' = X))
  refine ev_ald4 2 dL_addRule_0 rfl ?_
  refine tj_iconst 3 dL_addRule_2 rfl ?_
  refine ev_ald0 4 dL_addRule_3 rfl ?_
  refine ev_ild1 5 dL_addRule_4 rfl ?_
  refine ev_ild2 6 dL_addRule_5 rfl ?_
  refine ev_ild3 7 dL_addRule_6 rfl ?_
  refine tz_V3 10 13 dL_addRule_7 lkv_L_148 (tr0 hT) rfl rfl (by decide) (Nat.le_of_ble_eq_true rfl) hc ?_
  refine xv_catch (name := "java/lang/IllegalArgumentException") [] [(0, 12, 19, 15)] rfl (fun z hz => by cases hz) ⟨by decide, by decide⟩ (by decide) (List.mem_of_getElem? (i := 493) (by decide +kernel)) (List.mem_of_getElem? (i := 504) (by decide +kernel)) (fun q => ?_)
  refine ev_ast5 17 dL_addRule_15 rfl (by decide) rfl ?_
  refine tj_iconst 18 dL_addRule_17 rfl ?_
  exact ev_ireturn ⟨rfl, _, _, _, hT, rfl, rfl, rfl⟩ rfl dL_addRule_18
set_option maxRecDepth 100000 in
set_option maxHeartbeats 4000000 in
theorem w_addRule_x2 {g : Gt} {α : AL} {ν : Nat → Nat → Bool} {X : XM} {h : AH} (hT : TR g α ν X h) {p0 p1 p2 : Int} (hc : Th g M_X11_addRule 28 [.ref (α 0 0), .int (J p0), .int (J p1), .int (J p2)] h "java/lang/IllegalStateException") : Al g M_L_addRule 29 [.ref (α 0 0), .int (J p0), .int (J p1), .int (J p2), .ref (α 90 0)] h 1 6 (some (.int (J 2))) (fun a n x => a = α ∧ n = ν ∧ x = X) := by
  refine ct_of_evH rfl rfl (ls := [some (.ref (α 0 0)), some (.int (J p0)), some (.int (J p1)), some (.int (J p2)), some (.ref (α 90 0)), none]) rfl (Nat.le_of_ble_eq_true rfl) ?_
  show Ev g M_L_addRule 29 0 [some (.ref (α 0 0)), some (.int (J p0)), some (.int (J p1)), some (.int (J p2)), some (.ref (α 90 0)), none] [] h (1 + 0) (6 + 0) (fun r h' => r = .inl (some (.int (J 2))) ∧ ∃ α' ν' X', TR g α' ν' X' h' ∧ (α' = α ∧ ν' = ν ∧ X' = X))
  refine ev_ald4 2 dL_addRule_0 rfl ?_
  refine tj_iconst 3 dL_addRule_2 rfl ?_
  refine ev_ald0 4 dL_addRule_3 rfl ?_
  refine ev_ild1 5 dL_addRule_4 rfl ?_
  refine ev_ild2 6 dL_addRule_5 rfl ?_
  refine ev_ild3 7 dL_addRule_6 rfl ?_
  refine tz_V3 10 13 dL_addRule_7 lkv_L_148 (tr0 hT) rfl rfl (by decide) (Nat.le_of_ble_eq_true rfl) hc ?_
  refine xv_catch (name := "java/lang/IllegalStateException") [(0, 12, 15, 13)] [] rfl (fun z hz => by rcases (by simpa using hz : z = (0, 12, 15, 13)) with rfl <;> first | exact ⟨by decide, "java/lang/IllegalArgumentException", List.mem_of_getElem? (i := 493) (by decide +kernel), by decide +kernel⟩) ⟨by decide, by decide⟩ (by decide) (List.mem_of_getElem? (i := 494) (by decide +kernel)) (List.mem_of_getElem? (i := 576) (by decide +kernel)) (fun q => ?_)
  refine ev_ast5 21 dL_addRule_19 rfl (by decide) rfl ?_
  refine tj_iconst 22 dL_addRule_21 rfl ?_
  exact ev_ireturn ⟨rfl, _, _, _, hT, rfl, rfl, rfl⟩ rfl dL_addRule_22
abbrev M_L_addStudent : Mt := (yL_addStudent, cL_addStudent, 4, (Option.some Jvm.ClassFile.FieldType.int), [(0, 9, 12, 13), (0, 9, 15, 15)])
set_option maxRecDepth 100000 in
set_option maxHeartbeats 4000000 in
theorem w_addStudent_ok {g : Gt} {α : AL} {ν : Nat → Nat → Bool} {X : XM} {h : AH} (hT : TR g α ν X h) {p0 : Int} {z : Int} (hz : R31 z) {P : AL → (Nat → Nat → Bool) → XM → Prop} {mc ms : Nat} (hA : ∀ a n x, P a n x → a 90 0 = α 90 0) (hc : Al g M_X11_addStudent 28 [.ref (α 0 0), .int (J p0)] h mc ms (some (.int (J z))) P) : Al g M_L_addStudent 29 [.ref (α 0 0), .int (J p0), .ref (α 90 0)] h mc ms (some (.int (J 0))) (fun a n x => ∃ x0, P a n x0 ∧ x = xs x0 90 0 0 z) := by
  refine ct_of_evH rfl rfl (ls := [some (.ref (α 0 0)), some (.int (J p0)), some (.ref (α 90 0)), none]) rfl (Nat.le_of_ble_eq_true rfl) ?_
  show Ev g M_L_addStudent 29 0 [some (.ref (α 0 0)), some (.int (J p0)), some (.ref (α 90 0)), none] [] h (mc + 0) (ms + 0) (fun r h' => r = .inl (some (.int (J 0))) ∧ ∃ α' ν' X', TR g α' ν' X' h' ∧ ∃ x0, P α' ν' x0 ∧ X' = xs x0 90 0 0 z)
  refine ev_ald2 1 dL_addStudent_0 rfl ?_
  refine tj_iconst 2 dL_addStudent_1 rfl ?_
  refine ev_ald0 3 dL_addStudent_2 rfl ?_
  refine ev_ild1 4 dL_addStudent_3 rfl ?_
  refine ta_V1 7 13 dL_addStudent_4 lkv_L_17 (tr0 hT) rfl rfl (by decide) (Nat.le_of_ble_eq_true rfl) hc (fun h α' ν' X1 hT hP => ?_)
  rw [← hA _ _ _ hP]
  refine ev_i2l 8 dL_addStudent_7 rfl ?_
  rw [J_i2l _ hz]
  refine tv_last 9 hT rfl hz dL_addStudent_8 rfl (fun h hT => ?_)
  refine ev_goto 18 dL_addStudent_9 (by decide) ?_
  refine tj_iconst 19 dL_addStudent_18 rfl ?_
  exact ev_ireturn ⟨rfl, _, _, _, hT, _, hP, rfl⟩ rfl dL_addStudent_19
set_option maxRecDepth 100000 in
set_option maxHeartbeats 4000000 in
theorem w_addStudent_x1 {g : Gt} {α : AL} {ν : Nat → Nat → Bool} {X : XM} {h : AH} (hT : TR g α ν X h) {p0 : Int} (hc : Th g M_X11_addStudent 28 [.ref (α 0 0), .int (J p0)] h "java/lang/IllegalArgumentException") : Al g M_L_addStudent 29 [.ref (α 0 0), .int (J p0), .ref (α 90 0)] h 1 6 (some (.int (J 1))) (fun a n x => a = α ∧ n = ν ∧ x = X) := by
  refine ct_of_evH rfl rfl (ls := [some (.ref (α 0 0)), some (.int (J p0)), some (.ref (α 90 0)), none]) rfl (Nat.le_of_ble_eq_true rfl) ?_
  show Ev g M_L_addStudent 29 0 [some (.ref (α 0 0)), some (.int (J p0)), some (.ref (α 90 0)), none] [] h (1 + 0) (6 + 0) (fun r h' => r = .inl (some (.int (J 1))) ∧ ∃ α' ν' X', TR g α' ν' X' h' ∧ (α' = α ∧ ν' = ν ∧ X' = X))
  refine ev_ald2 1 dL_addStudent_0 rfl ?_
  refine tj_iconst 2 dL_addStudent_1 rfl ?_
  refine ev_ald0 3 dL_addStudent_2 rfl ?_
  refine ev_ild1 4 dL_addStudent_3 rfl ?_
  refine tz_V1 7 13 dL_addStudent_4 lkv_L_17 (tr0 hT) rfl rfl (by decide) (Nat.le_of_ble_eq_true rfl) hc ?_
  refine xv_catch (name := "java/lang/IllegalArgumentException") [] [(0, 9, 15, 15)] rfl (fun z hz => by cases hz) ⟨by decide, by decide⟩ (by decide) (List.mem_of_getElem? (i := 493) (by decide +kernel)) (List.mem_of_getElem? (i := 504) (by decide +kernel)) (fun q => ?_)
  refine ev_ast3 13 dL_addStudent_12 rfl (by decide) rfl ?_
  refine tj_iconst 14 dL_addStudent_13 rfl ?_
  exact ev_ireturn ⟨rfl, _, _, _, hT, rfl, rfl, rfl⟩ rfl dL_addStudent_14
set_option maxRecDepth 100000 in
set_option maxHeartbeats 4000000 in
theorem w_addStudent_x2 {g : Gt} {α : AL} {ν : Nat → Nat → Bool} {X : XM} {h : AH} (hT : TR g α ν X h) {p0 : Int} (hc : Th g M_X11_addStudent 28 [.ref (α 0 0), .int (J p0)] h "java/lang/IllegalStateException") : Al g M_L_addStudent 29 [.ref (α 0 0), .int (J p0), .ref (α 90 0)] h 1 6 (some (.int (J 2))) (fun a n x => a = α ∧ n = ν ∧ x = X) := by
  refine ct_of_evH rfl rfl (ls := [some (.ref (α 0 0)), some (.int (J p0)), some (.ref (α 90 0)), none]) rfl (Nat.le_of_ble_eq_true rfl) ?_
  show Ev g M_L_addStudent 29 0 [some (.ref (α 0 0)), some (.int (J p0)), some (.ref (α 90 0)), none] [] h (1 + 0) (6 + 0) (fun r h' => r = .inl (some (.int (J 2))) ∧ ∃ α' ν' X', TR g α' ν' X' h' ∧ (α' = α ∧ ν' = ν ∧ X' = X))
  refine ev_ald2 1 dL_addStudent_0 rfl ?_
  refine tj_iconst 2 dL_addStudent_1 rfl ?_
  refine ev_ald0 3 dL_addStudent_2 rfl ?_
  refine ev_ild1 4 dL_addStudent_3 rfl ?_
  refine tz_V1 7 13 dL_addStudent_4 lkv_L_17 (tr0 hT) rfl rfl (by decide) (Nat.le_of_ble_eq_true rfl) hc ?_
  refine xv_catch (name := "java/lang/IllegalStateException") [(0, 9, 12, 13)] [] rfl (fun z hz => by rcases (by simpa using hz : z = (0, 9, 12, 13)) with rfl <;> first | exact ⟨by decide, "java/lang/IllegalArgumentException", List.mem_of_getElem? (i := 493) (by decide +kernel), by decide +kernel⟩) ⟨by decide, by decide⟩ (by decide) (List.mem_of_getElem? (i := 494) (by decide +kernel)) (List.mem_of_getElem? (i := 576) (by decide +kernel)) (fun q => ?_)
  refine ev_ast3 16 dL_addStudent_15 rfl (by decide) rfl ?_
  refine tj_iconst 17 dL_addStudent_16 rfl ?_
  exact ev_ireturn ⟨rfl, _, _, _, hT, rfl, rfl, rfl⟩ rfl dL_addStudent_17
abbrev M_L_allFormula : Mt := (yL_allFormula, cL_allFormula, 5, (Option.some Jvm.ClassFile.FieldType.int), [(0, 10, 13, 45), (0, 10, 17, 15)])
set_option maxRecDepth 100000 in
set_option maxHeartbeats 4000000 in
theorem w_allFormula_ok {g : Gt} {α : AL} {ν : Nat → Nat → Bool} {X : XM} {h : AH} (hT : TR g α ν X h) {p0 p1 : Int} {z : Int} (hz : R31 z) {P : AL → (Nat → Nat → Bool) → XM → Prop} {mc ms : Nat} (hA : ∀ a n x, P a n x → a 90 0 = α 90 0) (hc : Al g M_X11_allFormula 28 [.ref (α 0 0), .int (J p0), .int (J p1)] h mc ms (some (.int (J z))) P) : Al g M_L_allFormula 29 [.ref (α 0 0), .int (J p0), .int (J p1), .ref (α 90 0)] h mc ms (some (.int (J 0))) (fun a n x => ∃ x0, P a n x0 ∧ x = xs x0 90 0 0 z) := by
  refine ct_of_evH rfl rfl (ls := [some (.ref (α 0 0)), some (.int (J p0)), some (.int (J p1)), some (.ref (α 90 0)), none]) rfl (Nat.le_of_ble_eq_true rfl) ?_
  show Ev g M_L_allFormula 29 0 [some (.ref (α 0 0)), some (.int (J p0)), some (.int (J p1)), some (.ref (α 90 0)), none] [] h (mc + 0) (ms + 0) (fun r h' => r = .inl (some (.int (J 0))) ∧ ∃ α' ν' X', TR g α' ν' X' h' ∧ ∃ x0, P α' ν' x0 ∧ X' = xs x0 90 0 0 z)
  refine ev_ald3 1 dL_allFormula_0 rfl ?_
  refine tj_iconst 2 dL_allFormula_1 rfl ?_
  refine ev_ald0 3 dL_allFormula_2 rfl ?_
  refine ev_ild1 4 dL_allFormula_3 rfl ?_
  refine ev_ild2 5 dL_allFormula_4 rfl ?_
  refine ta_V2 8 13 dL_allFormula_5 lkv_L_42 (tr0 hT) rfl rfl (by decide) (Nat.le_of_ble_eq_true rfl) hc (fun h α' ν' X1 hT hP => ?_)
  rw [← hA _ _ _ hP]
  refine ev_i2l 9 dL_allFormula_8 rfl ?_
  rw [J_i2l _ hz]
  refine tv_last 10 hT rfl hz dL_allFormula_9 rfl (fun h hT => ?_)
  refine ev_goto 21 dL_allFormula_10 (by decide) ?_
  refine tj_iconst 22 dL_allFormula_21 rfl ?_
  exact ev_ireturn ⟨rfl, _, _, _, hT, _, hP, rfl⟩ rfl dL_allFormula_22
set_option maxRecDepth 100000 in
set_option maxHeartbeats 4000000 in
theorem w_allFormula_x1 {g : Gt} {α : AL} {ν : Nat → Nat → Bool} {X : XM} {h : AH} (hT : TR g α ν X h) {p0 p1 : Int} (hc : Th g M_X11_allFormula 28 [.ref (α 0 0), .int (J p0), .int (J p1)] h "java/util/NoSuchElementException") : Al g M_L_allFormula 29 [.ref (α 0 0), .int (J p0), .int (J p1), .ref (α 90 0)] h 1 6 (some (.int (J 1))) (fun a n x => a = α ∧ n = ν ∧ x = X) := by
  refine ct_of_evH rfl rfl (ls := [some (.ref (α 0 0)), some (.int (J p0)), some (.int (J p1)), some (.ref (α 90 0)), none]) rfl (Nat.le_of_ble_eq_true rfl) ?_
  show Ev g M_L_allFormula 29 0 [some (.ref (α 0 0)), some (.int (J p0)), some (.int (J p1)), some (.ref (α 90 0)), none] [] h (1 + 0) (6 + 0) (fun r h' => r = .inl (some (.int (J 1))) ∧ ∃ α' ν' X', TR g α' ν' X' h' ∧ (α' = α ∧ ν' = ν ∧ X' = X))
  refine ev_ald3 1 dL_allFormula_0 rfl ?_
  refine tj_iconst 2 dL_allFormula_1 rfl ?_
  refine ev_ald0 3 dL_allFormula_2 rfl ?_
  refine ev_ild1 4 dL_allFormula_3 rfl ?_
  refine ev_ild2 5 dL_allFormula_4 rfl ?_
  refine tz_V2 8 13 dL_allFormula_5 lkv_L_42 (tr0 hT) rfl rfl (by decide) (Nat.le_of_ble_eq_true rfl) hc ?_
  refine xv_catch (name := "java/util/NoSuchElementException") [] [(0, 10, 17, 15)] rfl (fun z hz => by cases hz) ⟨by decide, by decide⟩ (by decide) (List.mem_of_getElem? (i := 867) (by decide +kernel)) (List.mem_of_getElem? (i := 878) (by decide +kernel)) (fun q => ?_)
  refine ev_ast4 15 dL_allFormula_13 rfl (by decide) rfl ?_
  refine tj_iconst 16 dL_allFormula_15 rfl ?_
  exact ev_ireturn ⟨rfl, _, _, _, hT, rfl, rfl, rfl⟩ rfl dL_allFormula_16
set_option maxRecDepth 100000 in
set_option maxHeartbeats 4000000 in
theorem w_allFormula_x2 {g : Gt} {α : AL} {ν : Nat → Nat → Bool} {X : XM} {h : AH} (hT : TR g α ν X h) {p0 p1 : Int} (hc : Th g M_X11_allFormula 28 [.ref (α 0 0), .int (J p0), .int (J p1)] h "java/lang/IllegalStateException") : Al g M_L_allFormula 29 [.ref (α 0 0), .int (J p0), .int (J p1), .ref (α 90 0)] h 1 6 (some (.int (J 2))) (fun a n x => a = α ∧ n = ν ∧ x = X) := by
  refine ct_of_evH rfl rfl (ls := [some (.ref (α 0 0)), some (.int (J p0)), some (.int (J p1)), some (.ref (α 90 0)), none]) rfl (Nat.le_of_ble_eq_true rfl) ?_
  show Ev g M_L_allFormula 29 0 [some (.ref (α 0 0)), some (.int (J p0)), some (.int (J p1)), some (.ref (α 90 0)), none] [] h (1 + 0) (6 + 0) (fun r h' => r = .inl (some (.int (J 2))) ∧ ∃ α' ν' X', TR g α' ν' X' h' ∧ (α' = α ∧ ν' = ν ∧ X' = X))
  refine ev_ald3 1 dL_allFormula_0 rfl ?_
  refine tj_iconst 2 dL_allFormula_1 rfl ?_
  refine ev_ald0 3 dL_allFormula_2 rfl ?_
  refine ev_ild1 4 dL_allFormula_3 rfl ?_
  refine ev_ild2 5 dL_allFormula_4 rfl ?_
  refine tz_V2 8 13 dL_allFormula_5 lkv_L_42 (tr0 hT) rfl rfl (by decide) (Nat.le_of_ble_eq_true rfl) hc ?_
  refine xv_catch (name := "java/lang/IllegalStateException") [(0, 10, 13, 45)] [] rfl (fun z hz => by rcases (by simpa using hz : z = (0, 10, 13, 45)) with rfl <;> first | exact ⟨by decide, "java/util/NoSuchElementException", List.mem_of_getElem? (i := 867) (by decide +kernel), by decide +kernel⟩) ⟨by decide, by decide⟩ (by decide) (List.mem_of_getElem? (i := 494) (by decide +kernel)) (List.mem_of_getElem? (i := 576) (by decide +kernel)) (fun q => ?_)
  refine ev_ast4 19 dL_allFormula_17 rfl (by decide) rfl ?_
  refine tj_iconst 20 dL_allFormula_19 rfl ?_
  exact ev_ireturn ⟨rfl, _, _, _, hT, rfl, rfl, rfl⟩ rfl dL_allFormula_20
abbrev M_L_allow : Mt := (yL_allow, cL_allow, 5, (Option.some Jvm.ClassFile.FieldType.int), [(0, 17, 20, 45), (0, 17, 24, 24)])
set_option maxRecDepth 100000 in
set_option maxHeartbeats 4000000 in
theorem w_allow_ok {g : Gt} {α : AL} {ν : Nat → Nat → Bool} {X : XM} {h : AH} (hT : TR g α ν X h) {p0 p1 : Int} {q : Bool} {P : AL → (Nat → Nat → Bool) → XM → Prop} {mc ms : Nat} (hA : ∀ a n x, P a n x → a 90 0 = α 90 0) (hc : Al g M_X11_allow 28 [.ref (α 0 0), .int (J p0), .int (J p1)] h mc ms (some (.int (J (bi q)))) P) : Al g M_L_allow 29 [.ref (α 0 0), .int (J p0), .int (J p1), .ref (α 90 0)] h mc ms (some (.int (J 0))) (fun a n x => ∃ x0, P a n x0 ∧ x = xs x0 90 0 0 (bi q)) := by
  refine ct_of_evH rfl rfl (ls := [some (.ref (α 0 0)), some (.int (J p0)), some (.int (J p1)), some (.ref (α 90 0)), none]) rfl (Nat.le_of_ble_eq_true rfl) ?_
  show Ev g M_L_allow 29 0 [some (.ref (α 0 0)), some (.int (J p0)), some (.int (J p1)), some (.ref (α 90 0)), none] [] h (mc + 0) (ms + 0) (fun r h' => r = .inl (some (.int (J 0))) ∧ ∃ α' ν' X', TR g α' ν' X' h' ∧ ∃ x0, P α' ν' x0 ∧ X' = xs x0 90 0 0 (bi q))
  refine ev_ald3 1 dL_allow_0 rfl ?_
  refine tj_iconst 2 dL_allow_1 rfl ?_
  refine ev_ald0 3 dL_allow_2 rfl ?_
  refine ev_ild1 4 dL_allow_3 rfl ?_
  refine ev_ild2 5 dL_allow_4 rfl ?_
  refine ta_V2 8 13 dL_allow_5 lkv_L_151 (tr0 hT) rfl rfl (by decide) (Nat.le_of_ble_eq_true rfl) hc (fun h α' ν' X1 hT hP => ?_)
  rw [← hA _ _ _ hP]
  cases q with
  | false =>
    refine tb_if_eq 15 11 dL_allow_8 (by decide) rfl (fun c0 => ?_) (fun c0 => ?_)
    · skip
      refine ev_lconst (Int64.ofInt (bi false)) 16 dL_allow_15 (by decide) rfl ?_
      refine tv_last 17 hT rfl (bi_R false) dL_allow_16 rfl (fun h hT => ?_)
      refine ev_goto 28 dL_allow_17 (by decide) ?_
      refine tj_iconst 29 dL_allow_28 rfl ?_
      exact ev_ireturn ⟨rfl, _, _, _, hT, _, hP, rfl⟩ rfl dL_allow_29
    · cases c0
  | true =>
    refine tb_if_eq 15 11 dL_allow_8 (by decide) rfl (fun c0 => ?_) (fun c0 => ?_)
    · cases c0
    · skip
      refine ev_lconst (Int64.ofInt (bi true)) 12 dL_allow_11 (by decide) rfl ?_
      refine ev_goto 16 dL_allow_12 (by decide) ?_
      refine tv_last 17 hT rfl (bi_R true) dL_allow_16 rfl (fun h hT => ?_)
      refine ev_goto 28 dL_allow_17 (by decide) ?_
      refine tj_iconst 29 dL_allow_28 rfl ?_
      exact ev_ireturn ⟨rfl, _, _, _, hT, _, hP, rfl⟩ rfl dL_allow_29
set_option maxRecDepth 100000 in
set_option maxHeartbeats 4000000 in
theorem w_allow_x1 {g : Gt} {α : AL} {ν : Nat → Nat → Bool} {X : XM} {h : AH} (hT : TR g α ν X h) {p0 p1 : Int} (hc : Th g M_X11_allow 28 [.ref (α 0 0), .int (J p0), .int (J p1)] h "java/util/NoSuchElementException") : Al g M_L_allow 29 [.ref (α 0 0), .int (J p0), .int (J p1), .ref (α 90 0)] h 1 6 (some (.int (J 1))) (fun a n x => a = α ∧ n = ν ∧ x = X) := by
  refine ct_of_evH rfl rfl (ls := [some (.ref (α 0 0)), some (.int (J p0)), some (.int (J p1)), some (.ref (α 90 0)), none]) rfl (Nat.le_of_ble_eq_true rfl) ?_
  show Ev g M_L_allow 29 0 [some (.ref (α 0 0)), some (.int (J p0)), some (.int (J p1)), some (.ref (α 90 0)), none] [] h (1 + 0) (6 + 0) (fun r h' => r = .inl (some (.int (J 1))) ∧ ∃ α' ν' X', TR g α' ν' X' h' ∧ (α' = α ∧ ν' = ν ∧ X' = X))
  refine ev_ald3 1 dL_allow_0 rfl ?_
  refine tj_iconst 2 dL_allow_1 rfl ?_
  refine ev_ald0 3 dL_allow_2 rfl ?_
  refine ev_ild1 4 dL_allow_3 rfl ?_
  refine ev_ild2 5 dL_allow_4 rfl ?_
  refine tz_V2 8 13 dL_allow_5 lkv_L_151 (tr0 hT) rfl rfl (by decide) (Nat.le_of_ble_eq_true rfl) hc ?_
  refine xv_catch (name := "java/util/NoSuchElementException") [] [(0, 17, 24, 24)] rfl (fun z hz => by cases hz) ⟨by decide, by decide⟩ (by decide) (List.mem_of_getElem? (i := 867) (by decide +kernel)) (List.mem_of_getElem? (i := 878) (by decide +kernel)) (fun q => ?_)
  refine ev_ast4 22 dL_allow_20 rfl (by decide) rfl ?_
  refine tj_iconst 23 dL_allow_22 rfl ?_
  exact ev_ireturn ⟨rfl, _, _, _, hT, rfl, rfl, rfl⟩ rfl dL_allow_23
set_option maxRecDepth 100000 in
set_option maxHeartbeats 4000000 in
theorem w_allow_x2 {g : Gt} {α : AL} {ν : Nat → Nat → Bool} {X : XM} {h : AH} (hT : TR g α ν X h) {p0 p1 : Int} (hc : Th g M_X11_allow 28 [.ref (α 0 0), .int (J p0), .int (J p1)] h "java/lang/IndexOutOfBoundsException") : Al g M_L_allow 29 [.ref (α 0 0), .int (J p0), .int (J p1), .ref (α 90 0)] h 1 6 (some (.int (J 2))) (fun a n x => a = α ∧ n = ν ∧ x = X) := by
  refine ct_of_evH rfl rfl (ls := [some (.ref (α 0 0)), some (.int (J p0)), some (.int (J p1)), some (.ref (α 90 0)), none]) rfl (Nat.le_of_ble_eq_true rfl) ?_
  show Ev g M_L_allow 29 0 [some (.ref (α 0 0)), some (.int (J p0)), some (.int (J p1)), some (.ref (α 90 0)), none] [] h (1 + 0) (6 + 0) (fun r h' => r = .inl (some (.int (J 2))) ∧ ∃ α' ν' X', TR g α' ν' X' h' ∧ (α' = α ∧ ν' = ν ∧ X' = X))
  refine ev_ald3 1 dL_allow_0 rfl ?_
  refine tj_iconst 2 dL_allow_1 rfl ?_
  refine ev_ald0 3 dL_allow_2 rfl ?_
  refine ev_ild1 4 dL_allow_3 rfl ?_
  refine ev_ild2 5 dL_allow_4 rfl ?_
  refine tz_V2 8 13 dL_allow_5 lkv_L_151 (tr0 hT) rfl rfl (by decide) (Nat.le_of_ble_eq_true rfl) hc ?_
  refine xv_catch (name := "java/lang/IndexOutOfBoundsException") [(0, 17, 20, 45)] [] rfl (fun z hz => by rcases (by simpa using hz : z = (0, 17, 20, 45)) with rfl <;> first | exact ⟨by decide, "java/util/NoSuchElementException", List.mem_of_getElem? (i := 867) (by decide +kernel), by decide +kernel⟩) ⟨by decide, by decide⟩ (by decide) (List.mem_of_getElem? (i := 700) (by decide +kernel)) (List.mem_of_getElem? (i := 734) (by decide +kernel)) (fun q => ?_)
  refine ev_ast4 26 dL_allow_24 rfl (by decide) rfl ?_
  refine tj_iconst 27 dL_allow_26 rfl ?_
  exact ev_ireturn ⟨rfl, _, _, _, hT, rfl, rfl, rfl⟩ rfl dL_allow_27
abbrev M_L_anyFormula : Mt := (yL_anyFormula, cL_anyFormula, 5, (Option.some Jvm.ClassFile.FieldType.int), [(0, 10, 13, 45), (0, 10, 17, 15)])
set_option maxRecDepth 100000 in
set_option maxHeartbeats 4000000 in
theorem w_anyFormula_ok {g : Gt} {α : AL} {ν : Nat → Nat → Bool} {X : XM} {h : AH} (hT : TR g α ν X h) {p0 p1 : Int} {z : Int} (hz : R31 z) {P : AL → (Nat → Nat → Bool) → XM → Prop} {mc ms : Nat} (hA : ∀ a n x, P a n x → a 90 0 = α 90 0) (hc : Al g M_X11_anyFormula 28 [.ref (α 0 0), .int (J p0), .int (J p1)] h mc ms (some (.int (J z))) P) : Al g M_L_anyFormula 29 [.ref (α 0 0), .int (J p0), .int (J p1), .ref (α 90 0)] h mc ms (some (.int (J 0))) (fun a n x => ∃ x0, P a n x0 ∧ x = xs x0 90 0 0 z) := by
  refine ct_of_evH rfl rfl (ls := [some (.ref (α 0 0)), some (.int (J p0)), some (.int (J p1)), some (.ref (α 90 0)), none]) rfl (Nat.le_of_ble_eq_true rfl) ?_
  show Ev g M_L_anyFormula 29 0 [some (.ref (α 0 0)), some (.int (J p0)), some (.int (J p1)), some (.ref (α 90 0)), none] [] h (mc + 0) (ms + 0) (fun r h' => r = .inl (some (.int (J 0))) ∧ ∃ α' ν' X', TR g α' ν' X' h' ∧ ∃ x0, P α' ν' x0 ∧ X' = xs x0 90 0 0 z)
  refine ev_ald3 1 dL_anyFormula_0 rfl ?_
  refine tj_iconst 2 dL_anyFormula_1 rfl ?_
  refine ev_ald0 3 dL_anyFormula_2 rfl ?_
  refine ev_ild1 4 dL_anyFormula_3 rfl ?_
  refine ev_ild2 5 dL_anyFormula_4 rfl ?_
  refine ta_V2 8 13 dL_anyFormula_5 lkv_L_47 (tr0 hT) rfl rfl (by decide) (Nat.le_of_ble_eq_true rfl) hc (fun h α' ν' X1 hT hP => ?_)
  rw [← hA _ _ _ hP]
  refine ev_i2l 9 dL_anyFormula_8 rfl ?_
  rw [J_i2l _ hz]
  refine tv_last 10 hT rfl hz dL_anyFormula_9 rfl (fun h hT => ?_)
  refine ev_goto 21 dL_anyFormula_10 (by decide) ?_
  refine tj_iconst 22 dL_anyFormula_21 rfl ?_
  exact ev_ireturn ⟨rfl, _, _, _, hT, _, hP, rfl⟩ rfl dL_anyFormula_22
set_option maxRecDepth 100000 in
set_option maxHeartbeats 4000000 in
theorem w_anyFormula_x1 {g : Gt} {α : AL} {ν : Nat → Nat → Bool} {X : XM} {h : AH} (hT : TR g α ν X h) {p0 p1 : Int} (hc : Th g M_X11_anyFormula 28 [.ref (α 0 0), .int (J p0), .int (J p1)] h "java/util/NoSuchElementException") : Al g M_L_anyFormula 29 [.ref (α 0 0), .int (J p0), .int (J p1), .ref (α 90 0)] h 1 6 (some (.int (J 1))) (fun a n x => a = α ∧ n = ν ∧ x = X) := by
  refine ct_of_evH rfl rfl (ls := [some (.ref (α 0 0)), some (.int (J p0)), some (.int (J p1)), some (.ref (α 90 0)), none]) rfl (Nat.le_of_ble_eq_true rfl) ?_
  show Ev g M_L_anyFormula 29 0 [some (.ref (α 0 0)), some (.int (J p0)), some (.int (J p1)), some (.ref (α 90 0)), none] [] h (1 + 0) (6 + 0) (fun r h' => r = .inl (some (.int (J 1))) ∧ ∃ α' ν' X', TR g α' ν' X' h' ∧ (α' = α ∧ ν' = ν ∧ X' = X))
  refine ev_ald3 1 dL_anyFormula_0 rfl ?_
  refine tj_iconst 2 dL_anyFormula_1 rfl ?_
  refine ev_ald0 3 dL_anyFormula_2 rfl ?_
  refine ev_ild1 4 dL_anyFormula_3 rfl ?_
  refine ev_ild2 5 dL_anyFormula_4 rfl ?_
  refine tz_V2 8 13 dL_anyFormula_5 lkv_L_47 (tr0 hT) rfl rfl (by decide) (Nat.le_of_ble_eq_true rfl) hc ?_
  refine xv_catch (name := "java/util/NoSuchElementException") [] [(0, 10, 17, 15)] rfl (fun z hz => by cases hz) ⟨by decide, by decide⟩ (by decide) (List.mem_of_getElem? (i := 867) (by decide +kernel)) (List.mem_of_getElem? (i := 878) (by decide +kernel)) (fun q => ?_)
  refine ev_ast4 15 dL_anyFormula_13 rfl (by decide) rfl ?_
  refine tj_iconst 16 dL_anyFormula_15 rfl ?_
  exact ev_ireturn ⟨rfl, _, _, _, hT, rfl, rfl, rfl⟩ rfl dL_anyFormula_16
set_option maxRecDepth 100000 in
set_option maxHeartbeats 4000000 in
theorem w_anyFormula_x2 {g : Gt} {α : AL} {ν : Nat → Nat → Bool} {X : XM} {h : AH} (hT : TR g α ν X h) {p0 p1 : Int} (hc : Th g M_X11_anyFormula 28 [.ref (α 0 0), .int (J p0), .int (J p1)] h "java/lang/IllegalStateException") : Al g M_L_anyFormula 29 [.ref (α 0 0), .int (J p0), .int (J p1), .ref (α 90 0)] h 1 6 (some (.int (J 2))) (fun a n x => a = α ∧ n = ν ∧ x = X) := by
  refine ct_of_evH rfl rfl (ls := [some (.ref (α 0 0)), some (.int (J p0)), some (.int (J p1)), some (.ref (α 90 0)), none]) rfl (Nat.le_of_ble_eq_true rfl) ?_
  show Ev g M_L_anyFormula 29 0 [some (.ref (α 0 0)), some (.int (J p0)), some (.int (J p1)), some (.ref (α 90 0)), none] [] h (1 + 0) (6 + 0) (fun r h' => r = .inl (some (.int (J 2))) ∧ ∃ α' ν' X', TR g α' ν' X' h' ∧ (α' = α ∧ ν' = ν ∧ X' = X))
  refine ev_ald3 1 dL_anyFormula_0 rfl ?_
  refine tj_iconst 2 dL_anyFormula_1 rfl ?_
  refine ev_ald0 3 dL_anyFormula_2 rfl ?_
  refine ev_ild1 4 dL_anyFormula_3 rfl ?_
  refine ev_ild2 5 dL_anyFormula_4 rfl ?_
  refine tz_V2 8 13 dL_anyFormula_5 lkv_L_47 (tr0 hT) rfl rfl (by decide) (Nat.le_of_ble_eq_true rfl) hc ?_
  refine xv_catch (name := "java/lang/IllegalStateException") [(0, 10, 13, 45)] [] rfl (fun z hz => by rcases (by simpa using hz : z = (0, 10, 13, 45)) with rfl <;> first | exact ⟨by decide, "java/util/NoSuchElementException", List.mem_of_getElem? (i := 867) (by decide +kernel), by decide +kernel⟩) ⟨by decide, by decide⟩ (by decide) (List.mem_of_getElem? (i := 494) (by decide +kernel)) (List.mem_of_getElem? (i := 576) (by decide +kernel)) (fun q => ?_)
  refine ev_ast4 19 dL_anyFormula_17 rfl (by decide) rfl ?_
  refine tj_iconst 20 dL_anyFormula_19 rfl ?_
  exact ev_ireturn ⟨rfl, _, _, _, hT, rfl, rfl, rfl⟩ rfl dL_anyFormula_20
abbrev M_L_attempts : Mt := (yL_attempts, cL_attempts, 5, (Option.some Jvm.ClassFile.FieldType.int), [(0, 10, 13, 24)])
set_option maxRecDepth 100000 in
set_option maxHeartbeats 4000000 in
theorem w_attempts_ok {g : Gt} {α : AL} {ν : Nat → Nat → Bool} {X : XM} {h : AH} (hT : TR g α ν X h) {p0 p1 : Int} {z : Int} (hz : R31 z) {P : AL → (Nat → Nat → Bool) → XM → Prop} {mc ms : Nat} (hA : ∀ a n x, P a n x → a 90 0 = α 90 0) (hc : Al g M_X11_attempts 28 [.ref (α 0 0), .int (J p0), .int (J p1)] h mc ms (some (.int (J z))) P) : Al g M_L_attempts 29 [.ref (α 0 0), .int (J p0), .int (J p1), .ref (α 90 0)] h mc ms (some (.int (J 0))) (fun a n x => ∃ x0, P a n x0 ∧ x = xs x0 90 0 0 z) := by
  refine ct_of_evH rfl rfl (ls := [some (.ref (α 0 0)), some (.int (J p0)), some (.int (J p1)), some (.ref (α 90 0)), none]) rfl (Nat.le_of_ble_eq_true rfl) ?_
  show Ev g M_L_attempts 29 0 [some (.ref (α 0 0)), some (.int (J p0)), some (.int (J p1)), some (.ref (α 90 0)), none] [] h (mc + 0) (ms + 0) (fun r h' => r = .inl (some (.int (J 0))) ∧ ∃ α' ν' X', TR g α' ν' X' h' ∧ ∃ x0, P α' ν' x0 ∧ X' = xs x0 90 0 0 z)
  refine ev_ald3 1 dL_attempts_0 rfl ?_
  refine tj_iconst 2 dL_attempts_1 rfl ?_
  refine ev_ald0 3 dL_attempts_2 rfl ?_
  refine ev_ild1 4 dL_attempts_3 rfl ?_
  refine ev_ild2 5 dL_attempts_4 rfl ?_
  refine ta_V2 8 13 dL_attempts_5 lkv_L_101 (tr0 hT) rfl rfl (by decide) (Nat.le_of_ble_eq_true rfl) hc (fun h α' ν' X1 hT hP => ?_)
  rw [← hA _ _ _ hP]
  refine ev_i2l 9 dL_attempts_8 rfl ?_
  rw [J_i2l _ hz]
  refine tv_last 10 hT rfl hz dL_attempts_9 rfl (fun h hT => ?_)
  refine ev_goto 17 dL_attempts_10 (by decide) ?_
  refine tj_iconst 18 dL_attempts_17 rfl ?_
  exact ev_ireturn ⟨rfl, _, _, _, hT, _, hP, rfl⟩ rfl dL_attempts_18
set_option maxRecDepth 100000 in
set_option maxHeartbeats 4000000 in
theorem w_attempts_x1 {g : Gt} {α : AL} {ν : Nat → Nat → Bool} {X : XM} {h : AH} (hT : TR g α ν X h) {p0 p1 : Int} (hc : Th g M_X11_attempts 28 [.ref (α 0 0), .int (J p0), .int (J p1)] h "java/lang/IndexOutOfBoundsException") : Al g M_L_attempts 29 [.ref (α 0 0), .int (J p0), .int (J p1), .ref (α 90 0)] h 1 6 (some (.int (J 1))) (fun a n x => a = α ∧ n = ν ∧ x = X) := by
  refine ct_of_evH rfl rfl (ls := [some (.ref (α 0 0)), some (.int (J p0)), some (.int (J p1)), some (.ref (α 90 0)), none]) rfl (Nat.le_of_ble_eq_true rfl) ?_
  show Ev g M_L_attempts 29 0 [some (.ref (α 0 0)), some (.int (J p0)), some (.int (J p1)), some (.ref (α 90 0)), none] [] h (1 + 0) (6 + 0) (fun r h' => r = .inl (some (.int (J 1))) ∧ ∃ α' ν' X', TR g α' ν' X' h' ∧ (α' = α ∧ ν' = ν ∧ X' = X))
  refine ev_ald3 1 dL_attempts_0 rfl ?_
  refine tj_iconst 2 dL_attempts_1 rfl ?_
  refine ev_ald0 3 dL_attempts_2 rfl ?_
  refine ev_ild1 4 dL_attempts_3 rfl ?_
  refine ev_ild2 5 dL_attempts_4 rfl ?_
  refine tz_V2 8 13 dL_attempts_5 lkv_L_101 (tr0 hT) rfl rfl (by decide) (Nat.le_of_ble_eq_true rfl) hc ?_
  refine xv_catch (name := "java/lang/IndexOutOfBoundsException") [] [] rfl (fun z hz => by cases hz) ⟨by decide, by decide⟩ (by decide) (List.mem_of_getElem? (i := 700) (by decide +kernel)) (List.mem_of_getElem? (i := 734) (by decide +kernel)) (fun q => ?_)
  refine ev_ast4 15 dL_attempts_13 rfl (by decide) rfl ?_
  refine tj_iconst 16 dL_attempts_15 rfl ?_
  exact ev_ireturn ⟨rfl, _, _, _, hT, rfl, rfl, rfl⟩ rfl dL_attempts_16
abbrev M_L_average : Mt := (yL_average, cL_average, 4, (Option.some Jvm.ClassFile.FieldType.int), [(0, 8, 11, 24), (0, 8, 14, 76)])
abbrev M_L_bestMark : Mt := (yL_bestMark, cL_bestMark, 5, (Option.some Jvm.ClassFile.FieldType.int), [(0, 10, 13, 24), (0, 10, 17, 45)])
set_option maxRecDepth 100000 in
set_option maxHeartbeats 4000000 in
theorem w_bestMark_ok {g : Gt} {α : AL} {ν : Nat → Nat → Bool} {X : XM} {h : AH} (hT : TR g α ν X h) {p0 p1 : Int} {z : Int} (hz : R31 z) {P : AL → (Nat → Nat → Bool) → XM → Prop} {mc ms : Nat} (hA : ∀ a n x, P a n x → a 90 0 = α 90 0) (hc : Al g M_X11_bestMark 28 [.ref (α 0 0), .int (J p0), .int (J p1)] h mc ms (some (.int (J z))) P) : Al g M_L_bestMark 29 [.ref (α 0 0), .int (J p0), .int (J p1), .ref (α 90 0)] h mc ms (some (.int (J 0))) (fun a n x => ∃ x0, P a n x0 ∧ x = xs x0 90 0 0 z) := by
  refine ct_of_evH rfl rfl (ls := [some (.ref (α 0 0)), some (.int (J p0)), some (.int (J p1)), some (.ref (α 90 0)), none]) rfl (Nat.le_of_ble_eq_true rfl) ?_
  show Ev g M_L_bestMark 29 0 [some (.ref (α 0 0)), some (.int (J p0)), some (.int (J p1)), some (.ref (α 90 0)), none] [] h (mc + 0) (ms + 0) (fun r h' => r = .inl (some (.int (J 0))) ∧ ∃ α' ν' X', TR g α' ν' X' h' ∧ ∃ x0, P α' ν' x0 ∧ X' = xs x0 90 0 0 z)
  refine ev_ald3 1 dL_bestMark_0 rfl ?_
  refine tj_iconst 2 dL_bestMark_1 rfl ?_
  refine ev_ald0 3 dL_bestMark_2 rfl ?_
  refine ev_ild1 4 dL_bestMark_3 rfl ?_
  refine ev_ild2 5 dL_bestMark_4 rfl ?_
  refine ta_V2 8 13 dL_bestMark_5 lkv_L_98 (tr0 hT) rfl rfl (by decide) (Nat.le_of_ble_eq_true rfl) hc (fun h α' ν' X1 hT hP => ?_)
  rw [← hA _ _ _ hP]
  refine ev_i2l 9 dL_bestMark_8 rfl ?_
  rw [J_i2l _ hz]
  refine tv_last 10 hT rfl hz dL_bestMark_9 rfl (fun h hT => ?_)
  refine ev_goto 21 dL_bestMark_10 (by decide) ?_
  refine tj_iconst 22 dL_bestMark_21 rfl ?_
  exact ev_ireturn ⟨rfl, _, _, _, hT, _, hP, rfl⟩ rfl dL_bestMark_22
set_option maxRecDepth 100000 in
set_option maxHeartbeats 4000000 in
theorem w_bestMark_x1 {g : Gt} {α : AL} {ν : Nat → Nat → Bool} {X : XM} {h : AH} (hT : TR g α ν X h) {p0 p1 : Int} (hc : Th g M_X11_bestMark 28 [.ref (α 0 0), .int (J p0), .int (J p1)] h "java/lang/IndexOutOfBoundsException") : Al g M_L_bestMark 29 [.ref (α 0 0), .int (J p0), .int (J p1), .ref (α 90 0)] h 1 6 (some (.int (J 1))) (fun a n x => a = α ∧ n = ν ∧ x = X) := by
  refine ct_of_evH rfl rfl (ls := [some (.ref (α 0 0)), some (.int (J p0)), some (.int (J p1)), some (.ref (α 90 0)), none]) rfl (Nat.le_of_ble_eq_true rfl) ?_
  show Ev g M_L_bestMark 29 0 [some (.ref (α 0 0)), some (.int (J p0)), some (.int (J p1)), some (.ref (α 90 0)), none] [] h (1 + 0) (6 + 0) (fun r h' => r = .inl (some (.int (J 1))) ∧ ∃ α' ν' X', TR g α' ν' X' h' ∧ (α' = α ∧ ν' = ν ∧ X' = X))
  refine ev_ald3 1 dL_bestMark_0 rfl ?_
  refine tj_iconst 2 dL_bestMark_1 rfl ?_
  refine ev_ald0 3 dL_bestMark_2 rfl ?_
  refine ev_ild1 4 dL_bestMark_3 rfl ?_
  refine ev_ild2 5 dL_bestMark_4 rfl ?_
  refine tz_V2 8 13 dL_bestMark_5 lkv_L_98 (tr0 hT) rfl rfl (by decide) (Nat.le_of_ble_eq_true rfl) hc ?_
  refine xv_catch (name := "java/lang/IndexOutOfBoundsException") [] [(0, 10, 17, 45)] rfl (fun z hz => by cases hz) ⟨by decide, by decide⟩ (by decide) (List.mem_of_getElem? (i := 700) (by decide +kernel)) (List.mem_of_getElem? (i := 734) (by decide +kernel)) (fun q => ?_)
  refine ev_ast4 15 dL_bestMark_13 rfl (by decide) rfl ?_
  refine tj_iconst 16 dL_bestMark_15 rfl ?_
  exact ev_ireturn ⟨rfl, _, _, _, hT, rfl, rfl, rfl⟩ rfl dL_bestMark_16
set_option maxRecDepth 100000 in
set_option maxHeartbeats 4000000 in
theorem w_bestMark_x2 {g : Gt} {α : AL} {ν : Nat → Nat → Bool} {X : XM} {h : AH} (hT : TR g α ν X h) {p0 p1 : Int} (hc : Th g M_X11_bestMark 28 [.ref (α 0 0), .int (J p0), .int (J p1)] h "java/util/NoSuchElementException") : Al g M_L_bestMark 29 [.ref (α 0 0), .int (J p0), .int (J p1), .ref (α 90 0)] h 1 6 (some (.int (J 2))) (fun a n x => a = α ∧ n = ν ∧ x = X) := by
  refine ct_of_evH rfl rfl (ls := [some (.ref (α 0 0)), some (.int (J p0)), some (.int (J p1)), some (.ref (α 90 0)), none]) rfl (Nat.le_of_ble_eq_true rfl) ?_
  show Ev g M_L_bestMark 29 0 [some (.ref (α 0 0)), some (.int (J p0)), some (.int (J p1)), some (.ref (α 90 0)), none] [] h (1 + 0) (6 + 0) (fun r h' => r = .inl (some (.int (J 2))) ∧ ∃ α' ν' X', TR g α' ν' X' h' ∧ (α' = α ∧ ν' = ν ∧ X' = X))
  refine ev_ald3 1 dL_bestMark_0 rfl ?_
  refine tj_iconst 2 dL_bestMark_1 rfl ?_
  refine ev_ald0 3 dL_bestMark_2 rfl ?_
  refine ev_ild1 4 dL_bestMark_3 rfl ?_
  refine ev_ild2 5 dL_bestMark_4 rfl ?_
  refine tz_V2 8 13 dL_bestMark_5 lkv_L_98 (tr0 hT) rfl rfl (by decide) (Nat.le_of_ble_eq_true rfl) hc ?_
  refine xv_catch (name := "java/util/NoSuchElementException") [(0, 10, 13, 24)] [] rfl (fun z hz => by rcases (by simpa using hz : z = (0, 10, 13, 24)) with rfl <;> first | exact ⟨by decide, "java/lang/IndexOutOfBoundsException", List.mem_of_getElem? (i := 700) (by decide +kernel), by decide +kernel⟩) ⟨by decide, by decide⟩ (by decide) (List.mem_of_getElem? (i := 867) (by decide +kernel)) (List.mem_of_getElem? (i := 878) (by decide +kernel)) (fun q => ?_)
  refine ev_ast4 19 dL_bestMark_17 rfl (by decide) rfl ?_
  refine tj_iconst 20 dL_bestMark_19 rfl ?_
  exact ev_ireturn ⟨rfl, _, _, _, hT, rfl, rfl, rfl⟩ rfl dL_bestMark_20
abbrev M_L_canGraduate : Mt := (yL_canGraduate, cL_canGraduate, 4, (Option.some Jvm.ClassFile.FieldType.int), [(0, 16, 19, 24)])
set_option maxRecDepth 100000 in
set_option maxHeartbeats 4000000 in
theorem w_canGraduate_ok {g : Gt} {α : AL} {ν : Nat → Nat → Bool} {X : XM} {h : AH} (hT : TR g α ν X h) {p0 : Int} {q : Bool} {P : AL → (Nat → Nat → Bool) → XM → Prop} {mc ms : Nat} (hA : ∀ a n x, P a n x → a 90 0 = α 90 0) (hc : Al g M_X11_canGraduate 28 [.ref (α 0 0), .int (J p0)] h mc ms (some (.int (J (bi q)))) P) : Al g M_L_canGraduate 29 [.ref (α 0 0), .int (J p0), .ref (α 90 0)] h mc ms (some (.int (J 0))) (fun a n x => ∃ x0, P a n x0 ∧ x = xs x0 90 0 0 (bi q)) := by
  refine ct_of_evH rfl rfl (ls := [some (.ref (α 0 0)), some (.int (J p0)), some (.ref (α 90 0)), none]) rfl (Nat.le_of_ble_eq_true rfl) ?_
  show Ev g M_L_canGraduate 29 0 [some (.ref (α 0 0)), some (.int (J p0)), some (.ref (α 90 0)), none] [] h (mc + 0) (ms + 0) (fun r h' => r = .inl (some (.int (J 0))) ∧ ∃ α' ν' X', TR g α' ν' X' h' ∧ ∃ x0, P α' ν' x0 ∧ X' = xs x0 90 0 0 (bi q))
  refine ev_ald2 1 dL_canGraduate_0 rfl ?_
  refine tj_iconst 2 dL_canGraduate_1 rfl ?_
  refine ev_ald0 3 dL_canGraduate_2 rfl ?_
  refine ev_ild1 4 dL_canGraduate_3 rfl ?_
  refine ta_V1 7 13 dL_canGraduate_4 lkv_L_175 (tr0 hT) rfl rfl (by decide) (Nat.le_of_ble_eq_true rfl) hc (fun h α' ν' X1 hT hP => ?_)
  rw [← hA _ _ _ hP]
  cases q with
  | false =>
    refine tb_if_eq 14 10 dL_canGraduate_7 (by decide) rfl (fun c0 => ?_) (fun c0 => ?_)
    · skip
      refine ev_lconst (Int64.ofInt (bi false)) 15 dL_canGraduate_14 (by decide) rfl ?_
      refine tv_last 16 hT rfl (bi_R false) dL_canGraduate_15 rfl (fun h hT => ?_)
      refine ev_goto 22 dL_canGraduate_16 (by decide) ?_
      refine tj_iconst 23 dL_canGraduate_22 rfl ?_
      exact ev_ireturn ⟨rfl, _, _, _, hT, _, hP, rfl⟩ rfl dL_canGraduate_23
    · cases c0
  | true =>
    refine tb_if_eq 14 10 dL_canGraduate_7 (by decide) rfl (fun c0 => ?_) (fun c0 => ?_)
    · cases c0
    · skip
      refine ev_lconst (Int64.ofInt (bi true)) 11 dL_canGraduate_10 (by decide) rfl ?_
      refine ev_goto 15 dL_canGraduate_11 (by decide) ?_
      refine tv_last 16 hT rfl (bi_R true) dL_canGraduate_15 rfl (fun h hT => ?_)
      refine ev_goto 22 dL_canGraduate_16 (by decide) ?_
      refine tj_iconst 23 dL_canGraduate_22 rfl ?_
      exact ev_ireturn ⟨rfl, _, _, _, hT, _, hP, rfl⟩ rfl dL_canGraduate_23
set_option maxRecDepth 100000 in
set_option maxHeartbeats 4000000 in
theorem w_canGraduate_x1 {g : Gt} {α : AL} {ν : Nat → Nat → Bool} {X : XM} {h : AH} (hT : TR g α ν X h) {p0 : Int} (hc : Th g M_X11_canGraduate 28 [.ref (α 0 0), .int (J p0)] h "java/lang/IndexOutOfBoundsException") : Al g M_L_canGraduate 29 [.ref (α 0 0), .int (J p0), .ref (α 90 0)] h 1 6 (some (.int (J 1))) (fun a n x => a = α ∧ n = ν ∧ x = X) := by
  refine ct_of_evH rfl rfl (ls := [some (.ref (α 0 0)), some (.int (J p0)), some (.ref (α 90 0)), none]) rfl (Nat.le_of_ble_eq_true rfl) ?_
  show Ev g M_L_canGraduate 29 0 [some (.ref (α 0 0)), some (.int (J p0)), some (.ref (α 90 0)), none] [] h (1 + 0) (6 + 0) (fun r h' => r = .inl (some (.int (J 1))) ∧ ∃ α' ν' X', TR g α' ν' X' h' ∧ (α' = α ∧ ν' = ν ∧ X' = X))
  refine ev_ald2 1 dL_canGraduate_0 rfl ?_
  refine tj_iconst 2 dL_canGraduate_1 rfl ?_
  refine ev_ald0 3 dL_canGraduate_2 rfl ?_
  refine ev_ild1 4 dL_canGraduate_3 rfl ?_
  refine tz_V1 7 13 dL_canGraduate_4 lkv_L_175 (tr0 hT) rfl rfl (by decide) (Nat.le_of_ble_eq_true rfl) hc ?_
  refine xv_catch (name := "java/lang/IndexOutOfBoundsException") [] [] rfl (fun z hz => by cases hz) ⟨by decide, by decide⟩ (by decide) (List.mem_of_getElem? (i := 700) (by decide +kernel)) (List.mem_of_getElem? (i := 734) (by decide +kernel)) (fun q => ?_)
  refine ev_ast3 20 dL_canGraduate_19 rfl (by decide) rfl ?_
  refine tj_iconst 21 dL_canGraduate_20 rfl ?_
  exact ev_ireturn ⟨rfl, _, _, _, hT, rfl, rfl, rfl⟩ rfl dL_canGraduate_21
abbrev M_L_changeMajor : Mt := (yL_changeMajor, cL_changeMajor, 5, (Option.some Jvm.ClassFile.FieldType.int), [(0, 10, 13, 24), (0, 10, 17, 13)])
set_option maxRecDepth 100000 in
set_option maxHeartbeats 4000000 in
theorem w_changeMajor_ok {g : Gt} {α : AL} {ν : Nat → Nat → Bool} {X : XM} {h : AH} (hT : TR g α ν X h) {p0 p1 : Int} {z : Int} (hz : R31 z) {P : AL → (Nat → Nat → Bool) → XM → Prop} {mc ms : Nat} (hA : ∀ a n x, P a n x → a 90 0 = α 90 0) (hc : Al g M_X11_changeMajor 28 [.ref (α 0 0), .int (J p0), .int (J p1)] h mc ms (some (.int (J z))) P) : Al g M_L_changeMajor 29 [.ref (α 0 0), .int (J p0), .int (J p1), .ref (α 90 0)] h mc ms (some (.int (J 0))) (fun a n x => ∃ x0, P a n x0 ∧ x = xs x0 90 0 0 z) := by
  refine ct_of_evH rfl rfl (ls := [some (.ref (α 0 0)), some (.int (J p0)), some (.int (J p1)), some (.ref (α 90 0)), none]) rfl (Nat.le_of_ble_eq_true rfl) ?_
  show Ev g M_L_changeMajor 29 0 [some (.ref (α 0 0)), some (.int (J p0)), some (.int (J p1)), some (.ref (α 90 0)), none] [] h (mc + 0) (ms + 0) (fun r h' => r = .inl (some (.int (J 0))) ∧ ∃ α' ν' X', TR g α' ν' X' h' ∧ ∃ x0, P α' ν' x0 ∧ X' = xs x0 90 0 0 z)
  refine ev_ald3 1 dL_changeMajor_0 rfl ?_
  refine tj_iconst 2 dL_changeMajor_1 rfl ?_
  refine ev_ald0 3 dL_changeMajor_2 rfl ?_
  refine ev_ild1 4 dL_changeMajor_3 rfl ?_
  refine ev_ild2 5 dL_changeMajor_4 rfl ?_
  refine ta_V2 8 13 dL_changeMajor_5 lkv_L_21 (tr0 hT) rfl rfl (by decide) (Nat.le_of_ble_eq_true rfl) hc (fun h α' ν' X1 hT hP => ?_)
  rw [← hA _ _ _ hP]
  refine ev_i2l 9 dL_changeMajor_8 rfl ?_
  rw [J_i2l _ hz]
  refine tv_last 10 hT rfl hz dL_changeMajor_9 rfl (fun h hT => ?_)
  refine ev_goto 21 dL_changeMajor_10 (by decide) ?_
  refine tj_iconst 22 dL_changeMajor_21 rfl ?_
  exact ev_ireturn ⟨rfl, _, _, _, hT, _, hP, rfl⟩ rfl dL_changeMajor_22
set_option maxRecDepth 100000 in
set_option maxHeartbeats 4000000 in
theorem w_changeMajor_x1 {g : Gt} {α : AL} {ν : Nat → Nat → Bool} {X : XM} {h : AH} (hT : TR g α ν X h) {p0 p1 : Int} (hc : Th g M_X11_changeMajor 28 [.ref (α 0 0), .int (J p0), .int (J p1)] h "java/lang/IndexOutOfBoundsException") : Al g M_L_changeMajor 29 [.ref (α 0 0), .int (J p0), .int (J p1), .ref (α 90 0)] h 1 6 (some (.int (J 1))) (fun a n x => a = α ∧ n = ν ∧ x = X) := by
  refine ct_of_evH rfl rfl (ls := [some (.ref (α 0 0)), some (.int (J p0)), some (.int (J p1)), some (.ref (α 90 0)), none]) rfl (Nat.le_of_ble_eq_true rfl) ?_
  show Ev g M_L_changeMajor 29 0 [some (.ref (α 0 0)), some (.int (J p0)), some (.int (J p1)), some (.ref (α 90 0)), none] [] h (1 + 0) (6 + 0) (fun r h' => r = .inl (some (.int (J 1))) ∧ ∃ α' ν' X', TR g α' ν' X' h' ∧ (α' = α ∧ ν' = ν ∧ X' = X))
  refine ev_ald3 1 dL_changeMajor_0 rfl ?_
  refine tj_iconst 2 dL_changeMajor_1 rfl ?_
  refine ev_ald0 3 dL_changeMajor_2 rfl ?_
  refine ev_ild1 4 dL_changeMajor_3 rfl ?_
  refine ev_ild2 5 dL_changeMajor_4 rfl ?_
  refine tz_V2 8 13 dL_changeMajor_5 lkv_L_21 (tr0 hT) rfl rfl (by decide) (Nat.le_of_ble_eq_true rfl) hc ?_
  refine xv_catch (name := "java/lang/IndexOutOfBoundsException") [] [(0, 10, 17, 13)] rfl (fun z hz => by cases hz) ⟨by decide, by decide⟩ (by decide) (List.mem_of_getElem? (i := 700) (by decide +kernel)) (List.mem_of_getElem? (i := 734) (by decide +kernel)) (fun q => ?_)
  refine ev_ast4 15 dL_changeMajor_13 rfl (by decide) rfl ?_
  refine tj_iconst 16 dL_changeMajor_15 rfl ?_
  exact ev_ireturn ⟨rfl, _, _, _, hT, rfl, rfl, rfl⟩ rfl dL_changeMajor_16
set_option maxRecDepth 100000 in
set_option maxHeartbeats 4000000 in
theorem w_changeMajor_x2 {g : Gt} {α : AL} {ν : Nat → Nat → Bool} {X : XM} {h : AH} (hT : TR g α ν X h) {p0 p1 : Int} (hc : Th g M_X11_changeMajor 28 [.ref (α 0 0), .int (J p0), .int (J p1)] h "java/lang/IllegalArgumentException") : Al g M_L_changeMajor 29 [.ref (α 0 0), .int (J p0), .int (J p1), .ref (α 90 0)] h 1 6 (some (.int (J 2))) (fun a n x => a = α ∧ n = ν ∧ x = X) := by
  refine ct_of_evH rfl rfl (ls := [some (.ref (α 0 0)), some (.int (J p0)), some (.int (J p1)), some (.ref (α 90 0)), none]) rfl (Nat.le_of_ble_eq_true rfl) ?_
  show Ev g M_L_changeMajor 29 0 [some (.ref (α 0 0)), some (.int (J p0)), some (.int (J p1)), some (.ref (α 90 0)), none] [] h (1 + 0) (6 + 0) (fun r h' => r = .inl (some (.int (J 2))) ∧ ∃ α' ν' X', TR g α' ν' X' h' ∧ (α' = α ∧ ν' = ν ∧ X' = X))
  refine ev_ald3 1 dL_changeMajor_0 rfl ?_
  refine tj_iconst 2 dL_changeMajor_1 rfl ?_
  refine ev_ald0 3 dL_changeMajor_2 rfl ?_
  refine ev_ild1 4 dL_changeMajor_3 rfl ?_
  refine ev_ild2 5 dL_changeMajor_4 rfl ?_
  refine tz_V2 8 13 dL_changeMajor_5 lkv_L_21 (tr0 hT) rfl rfl (by decide) (Nat.le_of_ble_eq_true rfl) hc ?_
  refine xv_catch (name := "java/lang/IllegalArgumentException") [(0, 10, 13, 24)] [] rfl (fun z hz => by rcases (by simpa using hz : z = (0, 10, 13, 24)) with rfl <;> first | exact ⟨by decide, "java/lang/IndexOutOfBoundsException", List.mem_of_getElem? (i := 700) (by decide +kernel), by decide +kernel⟩) ⟨by decide, by decide⟩ (by decide) (List.mem_of_getElem? (i := 493) (by decide +kernel)) (List.mem_of_getElem? (i := 504) (by decide +kernel)) (fun q => ?_)
  refine ev_ast4 19 dL_changeMajor_17 rfl (by decide) rfl ?_
  refine tj_iconst 20 dL_changeMajor_19 rfl ?_
  exact ev_ireturn ⟨rfl, _, _, _, hT, rfl, rfl, rfl⟩ rfl dL_changeMajor_20
abbrev M_L_creditsFormula : Mt := (yL_creditsFormula, cL_creditsFormula, 4, (Option.some Jvm.ClassFile.FieldType.int), [(0, 9, 12, 13), (0, 9, 15, 15)])
set_option maxRecDepth 100000 in
set_option maxHeartbeats 4000000 in
theorem w_creditsFormula_ok {g : Gt} {α : AL} {ν : Nat → Nat → Bool} {X : XM} {h : AH} (hT : TR g α ν X h) {p0 : Int} {z : Int} (hz : R31 z) {P : AL → (Nat → Nat → Bool) → XM → Prop} {mc ms : Nat} (hA : ∀ a n x, P a n x → a 90 0 = α 90 0) (hc : Al g M_X11_creditsFormula 28 [.ref (α 0 0), .int (J p0)] h mc ms (some (.int (J z))) P) : Al g M_L_creditsFormula 29 [.ref (α 0 0), .int (J p0), .ref (α 90 0)] h mc ms (some (.int (J 0))) (fun a n x => ∃ x0, P a n x0 ∧ x = xs x0 90 0 0 z) := by
  refine ct_of_evH rfl rfl (ls := [some (.ref (α 0 0)), some (.int (J p0)), some (.ref (α 90 0)), none]) rfl (Nat.le_of_ble_eq_true rfl) ?_
  show Ev g M_L_creditsFormula 29 0 [some (.ref (α 0 0)), some (.int (J p0)), some (.ref (α 90 0)), none] [] h (mc + 0) (ms + 0) (fun r h' => r = .inl (some (.int (J 0))) ∧ ∃ α' ν' X', TR g α' ν' X' h' ∧ ∃ x0, P α' ν' x0 ∧ X' = xs x0 90 0 0 z)
  refine ev_ald2 1 dL_creditsFormula_0 rfl ?_
  refine tj_iconst 2 dL_creditsFormula_1 rfl ?_
  refine ev_ald0 3 dL_creditsFormula_2 rfl ?_
  refine ev_ild1 4 dL_creditsFormula_3 rfl ?_
  refine ta_V1 7 13 dL_creditsFormula_4 lkv_L_39 (tr0 hT) rfl rfl (by decide) (Nat.le_of_ble_eq_true rfl) hc (fun h α' ν' X1 hT hP => ?_)
  rw [← hA _ _ _ hP]
  refine ev_i2l 8 dL_creditsFormula_7 rfl ?_
  rw [J_i2l _ hz]
  refine tv_last 9 hT rfl hz dL_creditsFormula_8 rfl (fun h hT => ?_)
  refine ev_goto 18 dL_creditsFormula_9 (by decide) ?_
  refine tj_iconst 19 dL_creditsFormula_18 rfl ?_
  exact ev_ireturn ⟨rfl, _, _, _, hT, _, hP, rfl⟩ rfl dL_creditsFormula_19
set_option maxRecDepth 100000 in
set_option maxHeartbeats 4000000 in
theorem w_creditsFormula_x1 {g : Gt} {α : AL} {ν : Nat → Nat → Bool} {X : XM} {h : AH} (hT : TR g α ν X h) {p0 : Int} (hc : Th g M_X11_creditsFormula 28 [.ref (α 0 0), .int (J p0)] h "java/lang/IllegalArgumentException") : Al g M_L_creditsFormula 29 [.ref (α 0 0), .int (J p0), .ref (α 90 0)] h 1 6 (some (.int (J 1))) (fun a n x => a = α ∧ n = ν ∧ x = X) := by
  refine ct_of_evH rfl rfl (ls := [some (.ref (α 0 0)), some (.int (J p0)), some (.ref (α 90 0)), none]) rfl (Nat.le_of_ble_eq_true rfl) ?_
  show Ev g M_L_creditsFormula 29 0 [some (.ref (α 0 0)), some (.int (J p0)), some (.ref (α 90 0)), none] [] h (1 + 0) (6 + 0) (fun r h' => r = .inl (some (.int (J 1))) ∧ ∃ α' ν' X', TR g α' ν' X' h' ∧ (α' = α ∧ ν' = ν ∧ X' = X))
  refine ev_ald2 1 dL_creditsFormula_0 rfl ?_
  refine tj_iconst 2 dL_creditsFormula_1 rfl ?_
  refine ev_ald0 3 dL_creditsFormula_2 rfl ?_
  refine ev_ild1 4 dL_creditsFormula_3 rfl ?_
  refine tz_V1 7 13 dL_creditsFormula_4 lkv_L_39 (tr0 hT) rfl rfl (by decide) (Nat.le_of_ble_eq_true rfl) hc ?_
  refine xv_catch (name := "java/lang/IllegalArgumentException") [] [(0, 9, 15, 15)] rfl (fun z hz => by cases hz) ⟨by decide, by decide⟩ (by decide) (List.mem_of_getElem? (i := 493) (by decide +kernel)) (List.mem_of_getElem? (i := 504) (by decide +kernel)) (fun q => ?_)
  refine ev_ast3 13 dL_creditsFormula_12 rfl (by decide) rfl ?_
  refine tj_iconst 14 dL_creditsFormula_13 rfl ?_
  exact ev_ireturn ⟨rfl, _, _, _, hT, rfl, rfl, rfl⟩ rfl dL_creditsFormula_14
set_option maxRecDepth 100000 in
set_option maxHeartbeats 4000000 in
theorem w_creditsFormula_x2 {g : Gt} {α : AL} {ν : Nat → Nat → Bool} {X : XM} {h : AH} (hT : TR g α ν X h) {p0 : Int} (hc : Th g M_X11_creditsFormula 28 [.ref (α 0 0), .int (J p0)] h "java/lang/IllegalStateException") : Al g M_L_creditsFormula 29 [.ref (α 0 0), .int (J p0), .ref (α 90 0)] h 1 6 (some (.int (J 2))) (fun a n x => a = α ∧ n = ν ∧ x = X) := by
  refine ct_of_evH rfl rfl (ls := [some (.ref (α 0 0)), some (.int (J p0)), some (.ref (α 90 0)), none]) rfl (Nat.le_of_ble_eq_true rfl) ?_
  show Ev g M_L_creditsFormula 29 0 [some (.ref (α 0 0)), some (.int (J p0)), some (.ref (α 90 0)), none] [] h (1 + 0) (6 + 0) (fun r h' => r = .inl (some (.int (J 2))) ∧ ∃ α' ν' X', TR g α' ν' X' h' ∧ (α' = α ∧ ν' = ν ∧ X' = X))
  refine ev_ald2 1 dL_creditsFormula_0 rfl ?_
  refine tj_iconst 2 dL_creditsFormula_1 rfl ?_
  refine ev_ald0 3 dL_creditsFormula_2 rfl ?_
  refine ev_ild1 4 dL_creditsFormula_3 rfl ?_
  refine tz_V1 7 13 dL_creditsFormula_4 lkv_L_39 (tr0 hT) rfl rfl (by decide) (Nat.le_of_ble_eq_true rfl) hc ?_
  refine xv_catch (name := "java/lang/IllegalStateException") [(0, 9, 12, 13)] [] rfl (fun z hz => by rcases (by simpa using hz : z = (0, 9, 12, 13)) with rfl <;> first | exact ⟨by decide, "java/lang/IllegalArgumentException", List.mem_of_getElem? (i := 493) (by decide +kernel), by decide +kernel⟩) ⟨by decide, by decide⟩ (by decide) (List.mem_of_getElem? (i := 494) (by decide +kernel)) (List.mem_of_getElem? (i := 576) (by decide +kernel)) (fun q => ?_)
  refine ev_ast3 16 dL_creditsFormula_15 rfl (by decide) rfl ?_
  refine tj_iconst 17 dL_creditsFormula_16 rfl ?_
  exact ev_ireturn ⟨rfl, _, _, _, hT, rfl, rfl, rfl⟩ rfl dL_creditsFormula_17
abbrev M_L_drop : Mt := (yL_drop, cL_drop, 5, (Option.some Jvm.ClassFile.FieldType.int), [(0, 10, 13, 24), (0, 10, 17, 45), (0, 10, 21, 15)])
set_option maxRecDepth 100000 in
set_option maxHeartbeats 4000000 in
theorem w_drop_ok {g : Gt} {α : AL} {ν : Nat → Nat → Bool} {X : XM} {h : AH} (hT : TR g α ν X h) {p0 p1 : Int} {z : Int} (hz : R31 z) {P : AL → (Nat → Nat → Bool) → XM → Prop} {mc ms : Nat} (hA : ∀ a n x, P a n x → a 90 0 = α 90 0) (hc : Al g M_X11_drop 28 [.ref (α 0 0), .int (J p0), .int (J p1)] h mc ms (some (.int (J z))) P) : Al g M_L_drop 29 [.ref (α 0 0), .int (J p0), .int (J p1), .ref (α 90 0)] h mc ms (some (.int (J 0))) (fun a n x => ∃ x0, P a n x0 ∧ x = xs x0 90 0 0 z) := by
  refine ct_of_evH rfl rfl (ls := [some (.ref (α 0 0)), some (.int (J p0)), some (.int (J p1)), some (.ref (α 90 0)), none]) rfl (Nat.le_of_ble_eq_true rfl) ?_
  show Ev g M_L_drop 29 0 [some (.ref (α 0 0)), some (.int (J p0)), some (.int (J p1)), some (.ref (α 90 0)), none] [] h (mc + 0) (ms + 0) (fun r h' => r = .inl (some (.int (J 0))) ∧ ∃ α' ν' X', TR g α' ν' X' h' ∧ ∃ x0, P α' ν' x0 ∧ X' = xs x0 90 0 0 z)
  refine ev_ald3 1 dL_drop_0 rfl ?_
  refine tj_iconst 2 dL_drop_1 rfl ?_
  refine ev_ald0 3 dL_drop_2 rfl ?_
  refine ev_ild1 4 dL_drop_3 rfl ?_
  refine ev_ild2 5 dL_drop_4 rfl ?_
  refine ta_V2 8 13 dL_drop_5 lkv_L_81 (tr0 hT) rfl rfl (by decide) (Nat.le_of_ble_eq_true rfl) hc (fun h α' ν' X1 hT hP => ?_)
  rw [← hA _ _ _ hP]
  refine ev_i2l 9 dL_drop_8 rfl ?_
  rw [J_i2l _ hz]
  refine tv_last 10 hT rfl hz dL_drop_9 rfl (fun h hT => ?_)
  refine ev_goto 25 dL_drop_10 (by decide) ?_
  refine tj_iconst 26 dL_drop_25 rfl ?_
  exact ev_ireturn ⟨rfl, _, _, _, hT, _, hP, rfl⟩ rfl dL_drop_26
set_option maxRecDepth 100000 in
set_option maxHeartbeats 4000000 in
theorem w_drop_x1 {g : Gt} {α : AL} {ν : Nat → Nat → Bool} {X : XM} {h : AH} (hT : TR g α ν X h) {p0 p1 : Int} (hc : Th g M_X11_drop 28 [.ref (α 0 0), .int (J p0), .int (J p1)] h "java/lang/IndexOutOfBoundsException") : Al g M_L_drop 29 [.ref (α 0 0), .int (J p0), .int (J p1), .ref (α 90 0)] h 1 6 (some (.int (J 1))) (fun a n x => a = α ∧ n = ν ∧ x = X) := by
  refine ct_of_evH rfl rfl (ls := [some (.ref (α 0 0)), some (.int (J p0)), some (.int (J p1)), some (.ref (α 90 0)), none]) rfl (Nat.le_of_ble_eq_true rfl) ?_
  show Ev g M_L_drop 29 0 [some (.ref (α 0 0)), some (.int (J p0)), some (.int (J p1)), some (.ref (α 90 0)), none] [] h (1 + 0) (6 + 0) (fun r h' => r = .inl (some (.int (J 1))) ∧ ∃ α' ν' X', TR g α' ν' X' h' ∧ (α' = α ∧ ν' = ν ∧ X' = X))
  refine ev_ald3 1 dL_drop_0 rfl ?_
  refine tj_iconst 2 dL_drop_1 rfl ?_
  refine ev_ald0 3 dL_drop_2 rfl ?_
  refine ev_ild1 4 dL_drop_3 rfl ?_
  refine ev_ild2 5 dL_drop_4 rfl ?_
  refine tz_V2 8 13 dL_drop_5 lkv_L_81 (tr0 hT) rfl rfl (by decide) (Nat.le_of_ble_eq_true rfl) hc ?_
  refine xv_catch (name := "java/lang/IndexOutOfBoundsException") [] [(0, 10, 17, 45), (0, 10, 21, 15)] rfl (fun z hz => by cases hz) ⟨by decide, by decide⟩ (by decide) (List.mem_of_getElem? (i := 700) (by decide +kernel)) (List.mem_of_getElem? (i := 734) (by decide +kernel)) (fun q => ?_)
  refine ev_ast4 15 dL_drop_13 rfl (by decide) rfl ?_
  refine tj_iconst 16 dL_drop_15 rfl ?_
  exact ev_ireturn ⟨rfl, _, _, _, hT, rfl, rfl, rfl⟩ rfl dL_drop_16
set_option maxRecDepth 100000 in
set_option maxHeartbeats 4000000 in
theorem w_drop_x2 {g : Gt} {α : AL} {ν : Nat → Nat → Bool} {X : XM} {h : AH} (hT : TR g α ν X h) {p0 p1 : Int} (hc : Th g M_X11_drop 28 [.ref (α 0 0), .int (J p0), .int (J p1)] h "java/util/NoSuchElementException") : Al g M_L_drop 29 [.ref (α 0 0), .int (J p0), .int (J p1), .ref (α 90 0)] h 1 6 (some (.int (J 2))) (fun a n x => a = α ∧ n = ν ∧ x = X) := by
  refine ct_of_evH rfl rfl (ls := [some (.ref (α 0 0)), some (.int (J p0)), some (.int (J p1)), some (.ref (α 90 0)), none]) rfl (Nat.le_of_ble_eq_true rfl) ?_
  show Ev g M_L_drop 29 0 [some (.ref (α 0 0)), some (.int (J p0)), some (.int (J p1)), some (.ref (α 90 0)), none] [] h (1 + 0) (6 + 0) (fun r h' => r = .inl (some (.int (J 2))) ∧ ∃ α' ν' X', TR g α' ν' X' h' ∧ (α' = α ∧ ν' = ν ∧ X' = X))
  refine ev_ald3 1 dL_drop_0 rfl ?_
  refine tj_iconst 2 dL_drop_1 rfl ?_
  refine ev_ald0 3 dL_drop_2 rfl ?_
  refine ev_ild1 4 dL_drop_3 rfl ?_
  refine ev_ild2 5 dL_drop_4 rfl ?_
  refine tz_V2 8 13 dL_drop_5 lkv_L_81 (tr0 hT) rfl rfl (by decide) (Nat.le_of_ble_eq_true rfl) hc ?_
  refine xv_catch (name := "java/util/NoSuchElementException") [(0, 10, 13, 24)] [(0, 10, 21, 15)] rfl (fun z hz => by rcases (by simpa using hz : z = (0, 10, 13, 24)) with rfl <;> first | exact ⟨by decide, "java/lang/IndexOutOfBoundsException", List.mem_of_getElem? (i := 700) (by decide +kernel), by decide +kernel⟩) ⟨by decide, by decide⟩ (by decide) (List.mem_of_getElem? (i := 867) (by decide +kernel)) (List.mem_of_getElem? (i := 878) (by decide +kernel)) (fun q => ?_)
  refine ev_ast4 19 dL_drop_17 rfl (by decide) rfl ?_
  refine tj_iconst 20 dL_drop_19 rfl ?_
  exact ev_ireturn ⟨rfl, _, _, _, hT, rfl, rfl, rfl⟩ rfl dL_drop_20
set_option maxRecDepth 100000 in
set_option maxHeartbeats 4000000 in
theorem w_drop_x3 {g : Gt} {α : AL} {ν : Nat → Nat → Bool} {X : XM} {h : AH} (hT : TR g α ν X h) {p0 p1 : Int} (hc : Th g M_X11_drop 28 [.ref (α 0 0), .int (J p0), .int (J p1)] h "java/lang/IllegalStateException") : Al g M_L_drop 29 [.ref (α 0 0), .int (J p0), .int (J p1), .ref (α 90 0)] h 1 6 (some (.int (J 3))) (fun a n x => a = α ∧ n = ν ∧ x = X) := by
  refine ct_of_evH rfl rfl (ls := [some (.ref (α 0 0)), some (.int (J p0)), some (.int (J p1)), some (.ref (α 90 0)), none]) rfl (Nat.le_of_ble_eq_true rfl) ?_
  show Ev g M_L_drop 29 0 [some (.ref (α 0 0)), some (.int (J p0)), some (.int (J p1)), some (.ref (α 90 0)), none] [] h (1 + 0) (6 + 0) (fun r h' => r = .inl (some (.int (J 3))) ∧ ∃ α' ν' X', TR g α' ν' X' h' ∧ (α' = α ∧ ν' = ν ∧ X' = X))
  refine ev_ald3 1 dL_drop_0 rfl ?_
  refine tj_iconst 2 dL_drop_1 rfl ?_
  refine ev_ald0 3 dL_drop_2 rfl ?_
  refine ev_ild1 4 dL_drop_3 rfl ?_
  refine ev_ild2 5 dL_drop_4 rfl ?_
  refine tz_V2 8 13 dL_drop_5 lkv_L_81 (tr0 hT) rfl rfl (by decide) (Nat.le_of_ble_eq_true rfl) hc ?_
  refine xv_catch (name := "java/lang/IllegalStateException") [(0, 10, 13, 24), (0, 10, 17, 45)] [] rfl (fun z hz => by rcases (by simpa using hz : z = (0, 10, 13, 24) ∨ z = (0, 10, 17, 45)) with rfl | rfl <;> first | exact ⟨by decide, "java/lang/IndexOutOfBoundsException", List.mem_of_getElem? (i := 700) (by decide +kernel), by decide +kernel⟩ | exact ⟨by decide, "java/util/NoSuchElementException", List.mem_of_getElem? (i := 867) (by decide +kernel), by decide +kernel⟩) ⟨by decide, by decide⟩ (by decide) (List.mem_of_getElem? (i := 494) (by decide +kernel)) (List.mem_of_getElem? (i := 576) (by decide +kernel)) (fun q => ?_)
  refine ev_ast4 23 dL_drop_21 rfl (by decide) rfl ?_
  refine tj_iconst 24 dL_drop_23 rfl ?_
  exact ev_ireturn ⟨rfl, _, _, _, hT, rfl, rfl, rfl⟩ rfl dL_drop_24
abbrev M_L_earnedCredits : Mt := (yL_earnedCredits, cL_earnedCredits, 4, (Option.some Jvm.ClassFile.FieldType.int), [(0, 9, 12, 24)])
set_option maxRecDepth 100000 in
set_option maxHeartbeats 4000000 in
theorem w_earnedCredits_ok {g : Gt} {α : AL} {ν : Nat → Nat → Bool} {X : XM} {h : AH} (hT : TR g α ν X h) {p0 : Int} {z : Int} (hz : R31 z) {P : AL → (Nat → Nat → Bool) → XM → Prop} {mc ms : Nat} (hA : ∀ a n x, P a n x → a 90 0 = α 90 0) (hc : Al g M_X11_earnedCredits 28 [.ref (α 0 0), .int (J p0)] h mc ms (some (.int (J z))) P) : Al g M_L_earnedCredits 29 [.ref (α 0 0), .int (J p0), .ref (α 90 0)] h mc ms (some (.int (J 0))) (fun a n x => ∃ x0, P a n x0 ∧ x = xs x0 90 0 0 z) := by
  refine ct_of_evH rfl rfl (ls := [some (.ref (α 0 0)), some (.int (J p0)), some (.ref (α 90 0)), none]) rfl (Nat.le_of_ble_eq_true rfl) ?_
  show Ev g M_L_earnedCredits 29 0 [some (.ref (α 0 0)), some (.int (J p0)), some (.ref (α 90 0)), none] [] h (mc + 0) (ms + 0) (fun r h' => r = .inl (some (.int (J 0))) ∧ ∃ α' ν' X', TR g α' ν' X' h' ∧ ∃ x0, P α' ν' x0 ∧ X' = xs x0 90 0 0 z)
  refine ev_ald2 1 dL_earnedCredits_0 rfl ?_
  refine tj_iconst 2 dL_earnedCredits_1 rfl ?_
  refine ev_ald0 3 dL_earnedCredits_2 rfl ?_
  refine ev_ild1 4 dL_earnedCredits_3 rfl ?_
  refine ta_V1 7 13 dL_earnedCredits_4 lkv_L_104 (tr0 hT) rfl rfl (by decide) (Nat.le_of_ble_eq_true rfl) hc (fun h α' ν' X1 hT hP => ?_)
  rw [← hA _ _ _ hP]
  refine ev_i2l 8 dL_earnedCredits_7 rfl ?_
  rw [J_i2l _ hz]
  refine tv_last 9 hT rfl hz dL_earnedCredits_8 rfl (fun h hT => ?_)
  refine ev_goto 15 dL_earnedCredits_9 (by decide) ?_
  refine tj_iconst 16 dL_earnedCredits_15 rfl ?_
  exact ev_ireturn ⟨rfl, _, _, _, hT, _, hP, rfl⟩ rfl dL_earnedCredits_16
set_option maxRecDepth 100000 in
set_option maxHeartbeats 4000000 in
theorem w_earnedCredits_x1 {g : Gt} {α : AL} {ν : Nat → Nat → Bool} {X : XM} {h : AH} (hT : TR g α ν X h) {p0 : Int} (hc : Th g M_X11_earnedCredits 28 [.ref (α 0 0), .int (J p0)] h "java/lang/IndexOutOfBoundsException") : Al g M_L_earnedCredits 29 [.ref (α 0 0), .int (J p0), .ref (α 90 0)] h 1 6 (some (.int (J 1))) (fun a n x => a = α ∧ n = ν ∧ x = X) := by
  refine ct_of_evH rfl rfl (ls := [some (.ref (α 0 0)), some (.int (J p0)), some (.ref (α 90 0)), none]) rfl (Nat.le_of_ble_eq_true rfl) ?_
  show Ev g M_L_earnedCredits 29 0 [some (.ref (α 0 0)), some (.int (J p0)), some (.ref (α 90 0)), none] [] h (1 + 0) (6 + 0) (fun r h' => r = .inl (some (.int (J 1))) ∧ ∃ α' ν' X', TR g α' ν' X' h' ∧ (α' = α ∧ ν' = ν ∧ X' = X))
  refine ev_ald2 1 dL_earnedCredits_0 rfl ?_
  refine tj_iconst 2 dL_earnedCredits_1 rfl ?_
  refine ev_ald0 3 dL_earnedCredits_2 rfl ?_
  refine ev_ild1 4 dL_earnedCredits_3 rfl ?_
  refine tz_V1 7 13 dL_earnedCredits_4 lkv_L_104 (tr0 hT) rfl rfl (by decide) (Nat.le_of_ble_eq_true rfl) hc ?_
  refine xv_catch (name := "java/lang/IndexOutOfBoundsException") [] [] rfl (fun z hz => by cases hz) ⟨by decide, by decide⟩ (by decide) (List.mem_of_getElem? (i := 700) (by decide +kernel)) (List.mem_of_getElem? (i := 734) (by decide +kernel)) (fun q => ?_)
  refine ev_ast3 13 dL_earnedCredits_12 rfl (by decide) rfl ?_
  refine tj_iconst 14 dL_earnedCredits_13 rfl ?_
  exact ev_ireturn ⟨rfl, _, _, _, hT, rfl, rfl, rfl⟩ rfl dL_earnedCredits_14
abbrev M_L_endTerm : Mt := (yL_endTerm, cL_endTerm, 3, (Option.some Jvm.ClassFile.FieldType.int), [(0, 8, 11, 15)])
set_option maxRecDepth 100000 in
set_option maxHeartbeats 4000000 in
theorem w_endTerm_ok {g : Gt} {α : AL} {ν : Nat → Nat → Bool} {X : XM} {h : AH} (hT : TR g α ν X h) {z : Int} (hz : R31 z) {P : AL → (Nat → Nat → Bool) → XM → Prop} {mc ms : Nat} (hA : ∀ a n x, P a n x → a 90 0 = α 90 0) (hc : Al g M_X11_endTerm 28 [.ref (α 0 0)] h mc ms (some (.int (J z))) P) : Al g M_L_endTerm 29 [.ref (α 0 0), .ref (α 90 0)] h mc ms (some (.int (J 0))) (fun a n x => ∃ x0, P a n x0 ∧ x = xs x0 90 0 0 z) := by
  refine ct_of_evH rfl rfl (ls := [some (.ref (α 0 0)), some (.ref (α 90 0)), none]) rfl (Nat.le_of_ble_eq_true rfl) ?_
  show Ev g M_L_endTerm 29 0 [some (.ref (α 0 0)), some (.ref (α 90 0)), none] [] h (mc + 0) (ms + 0) (fun r h' => r = .inl (some (.int (J 0))) ∧ ∃ α' ν' X', TR g α' ν' X' h' ∧ ∃ x0, P α' ν' x0 ∧ X' = xs x0 90 0 0 z)
  refine ev_ald1 1 dL_endTerm_0 rfl ?_
  refine tj_iconst 2 dL_endTerm_1 rfl ?_
  refine ev_ald0 3 dL_endTerm_2 rfl ?_
  refine ta_V0 6 13 dL_endTerm_3 lkv_L_91 (tr0 hT) rfl rfl (by decide) (Nat.le_of_ble_eq_true rfl) hc (fun h α' ν' X1 hT hP => ?_)
  rw [← hA _ _ _ hP]
  refine ev_i2l 7 dL_endTerm_6 rfl ?_
  rw [J_i2l _ hz]
  refine tv_last 8 hT rfl hz dL_endTerm_7 rfl (fun h hT => ?_)
  refine ev_goto 14 dL_endTerm_8 (by decide) ?_
  refine tj_iconst 15 dL_endTerm_14 rfl ?_
  exact ev_ireturn ⟨rfl, _, _, _, hT, _, hP, rfl⟩ rfl dL_endTerm_15
set_option maxRecDepth 100000 in
set_option maxHeartbeats 4000000 in
theorem w_endTerm_x1 {g : Gt} {α : AL} {ν : Nat → Nat → Bool} {X : XM} {h : AH} (hT : TR g α ν X h) (hc : Th g M_X11_endTerm 28 [.ref (α 0 0)] h "java/lang/IllegalStateException") : Al g M_L_endTerm 29 [.ref (α 0 0), .ref (α 90 0)] h 1 6 (some (.int (J 1))) (fun a n x => a = α ∧ n = ν ∧ x = X) := by
  refine ct_of_evH rfl rfl (ls := [some (.ref (α 0 0)), some (.ref (α 90 0)), none]) rfl (Nat.le_of_ble_eq_true rfl) ?_
  show Ev g M_L_endTerm 29 0 [some (.ref (α 0 0)), some (.ref (α 90 0)), none] [] h (1 + 0) (6 + 0) (fun r h' => r = .inl (some (.int (J 1))) ∧ ∃ α' ν' X', TR g α' ν' X' h' ∧ (α' = α ∧ ν' = ν ∧ X' = X))
  refine ev_ald1 1 dL_endTerm_0 rfl ?_
  refine tj_iconst 2 dL_endTerm_1 rfl ?_
  refine ev_ald0 3 dL_endTerm_2 rfl ?_
  refine tz_V0 6 13 dL_endTerm_3 lkv_L_91 (tr0 hT) rfl rfl (by decide) (Nat.le_of_ble_eq_true rfl) hc ?_
  refine xv_catch (name := "java/lang/IllegalStateException") [] [] rfl (fun z hz => by cases hz) ⟨by decide, by decide⟩ (by decide) (List.mem_of_getElem? (i := 494) (by decide +kernel)) (List.mem_of_getElem? (i := 576) (by decide +kernel)) (fun q => ?_)
  refine ev_ast2 12 dL_endTerm_11 rfl (by decide) rfl ?_
  refine tj_iconst 13 dL_endTerm_12 rfl ?_
  exact ev_ireturn ⟨rfl, _, _, _, hT, rfl, rfl, rfl⟩ rfl dL_endTerm_13
abbrev M_L_enroll : Mt := (yL_enroll, cL_enroll, 5, (Option.some Jvm.ClassFile.FieldType.int), [(0, 10, 13, 24), (0, 10, 17, 15), (0, 10, 21, 13), (0, 10, 25, 74), (0, 10, 29, 76), (0, 10, 33, 45)])
set_option maxRecDepth 100000 in
set_option maxHeartbeats 4000000 in
theorem w_enroll_ok {g : Gt} {α : AL} {ν : Nat → Nat → Bool} {X : XM} {h : AH} (hT : TR g α ν X h) {p0 p1 : Int} {z : Int} (hz : R31 z) {P : AL → (Nat → Nat → Bool) → XM → Prop} {mc ms : Nat} (hA : ∀ a n x, P a n x → a 90 0 = α 90 0) (hc : Al g M_X11_enroll 28 [.ref (α 0 0), .int (J p0), .int (J p1)] h mc ms (some (.int (J z))) P) : Al g M_L_enroll 29 [.ref (α 0 0), .int (J p0), .int (J p1), .ref (α 90 0)] h mc ms (some (.int (J 0))) (fun a n x => ∃ x0, P a n x0 ∧ x = xs x0 90 0 0 z) := by
  refine ct_of_evH rfl rfl (ls := [some (.ref (α 0 0)), some (.int (J p0)), some (.int (J p1)), some (.ref (α 90 0)), none]) rfl (Nat.le_of_ble_eq_true rfl) ?_
  show Ev g M_L_enroll 29 0 [some (.ref (α 0 0)), some (.int (J p0)), some (.int (J p1)), some (.ref (α 90 0)), none] [] h (mc + 0) (ms + 0) (fun r h' => r = .inl (some (.int (J 0))) ∧ ∃ α' ν' X', TR g α' ν' X' h' ∧ ∃ x0, P α' ν' x0 ∧ X' = xs x0 90 0 0 z)
  refine ev_ald3 1 dL_enroll_0 rfl ?_
  refine tj_iconst 2 dL_enroll_1 rfl ?_
  refine ev_ald0 3 dL_enroll_2 rfl ?_
  refine ev_ild1 4 dL_enroll_3 rfl ?_
  refine ev_ild2 5 dL_enroll_4 rfl ?_
  refine ta_V2 8 13 dL_enroll_5 lkv_L_70 (tr0 hT) rfl rfl (by decide) (Nat.le_of_ble_eq_true rfl) hc (fun h α' ν' X1 hT hP => ?_)
  rw [← hA _ _ _ hP]
  refine ev_i2l 9 dL_enroll_8 rfl ?_
  rw [J_i2l _ hz]
  refine tv_last 10 hT rfl hz dL_enroll_9 rfl (fun h hT => ?_)
  refine ev_goto 38 dL_enroll_10 (by decide) ?_
  refine tj_iconst 39 dL_enroll_38 rfl ?_
  exact ev_ireturn ⟨rfl, _, _, _, hT, _, hP, rfl⟩ rfl dL_enroll_39
set_option maxRecDepth 100000 in
set_option maxHeartbeats 4000000 in
theorem w_enroll_x1 {g : Gt} {α : AL} {ν : Nat → Nat → Bool} {X : XM} {h : AH} (hT : TR g α ν X h) {p0 p1 : Int} (hc : Th g M_X11_enroll 28 [.ref (α 0 0), .int (J p0), .int (J p1)] h "java/lang/IndexOutOfBoundsException") : Al g M_L_enroll 29 [.ref (α 0 0), .int (J p0), .int (J p1), .ref (α 90 0)] h 1 6 (some (.int (J 1))) (fun a n x => a = α ∧ n = ν ∧ x = X) := by
  refine ct_of_evH rfl rfl (ls := [some (.ref (α 0 0)), some (.int (J p0)), some (.int (J p1)), some (.ref (α 90 0)), none]) rfl (Nat.le_of_ble_eq_true rfl) ?_
  show Ev g M_L_enroll 29 0 [some (.ref (α 0 0)), some (.int (J p0)), some (.int (J p1)), some (.ref (α 90 0)), none] [] h (1 + 0) (6 + 0) (fun r h' => r = .inl (some (.int (J 1))) ∧ ∃ α' ν' X', TR g α' ν' X' h' ∧ (α' = α ∧ ν' = ν ∧ X' = X))
  refine ev_ald3 1 dL_enroll_0 rfl ?_
  refine tj_iconst 2 dL_enroll_1 rfl ?_
  refine ev_ald0 3 dL_enroll_2 rfl ?_
  refine ev_ild1 4 dL_enroll_3 rfl ?_
  refine ev_ild2 5 dL_enroll_4 rfl ?_
  refine tz_V2 8 13 dL_enroll_5 lkv_L_70 (tr0 hT) rfl rfl (by decide) (Nat.le_of_ble_eq_true rfl) hc ?_
  refine xv_catch (name := "java/lang/IndexOutOfBoundsException") [] [(0, 10, 17, 15), (0, 10, 21, 13), (0, 10, 25, 74), (0, 10, 29, 76), (0, 10, 33, 45)] rfl (fun z hz => by cases hz) ⟨by decide, by decide⟩ (by decide) (List.mem_of_getElem? (i := 700) (by decide +kernel)) (List.mem_of_getElem? (i := 734) (by decide +kernel)) (fun q => ?_)
  refine ev_ast4 15 dL_enroll_13 rfl (by decide) rfl ?_
  refine tj_iconst 16 dL_enroll_15 rfl ?_
  exact ev_ireturn ⟨rfl, _, _, _, hT, rfl, rfl, rfl⟩ rfl dL_enroll_16
set_option maxRecDepth 100000 in
set_option maxHeartbeats 4000000 in
theorem w_enroll_x2 {g : Gt} {α : AL} {ν : Nat → Nat → Bool} {X : XM} {h : AH} (hT : TR g α ν X h) {p0 p1 : Int} (hc : Th g M_X11_enroll 28 [.ref (α 0 0), .int (J p0), .int (J p1)] h "java/lang/IllegalStateException") : Al g M_L_enroll 29 [.ref (α 0 0), .int (J p0), .int (J p1), .ref (α 90 0)] h 1 6 (some (.int (J 2))) (fun a n x => a = α ∧ n = ν ∧ x = X) := by
  refine ct_of_evH rfl rfl (ls := [some (.ref (α 0 0)), some (.int (J p0)), some (.int (J p1)), some (.ref (α 90 0)), none]) rfl (Nat.le_of_ble_eq_true rfl) ?_
  show Ev g M_L_enroll 29 0 [some (.ref (α 0 0)), some (.int (J p0)), some (.int (J p1)), some (.ref (α 90 0)), none] [] h (1 + 0) (6 + 0) (fun r h' => r = .inl (some (.int (J 2))) ∧ ∃ α' ν' X', TR g α' ν' X' h' ∧ (α' = α ∧ ν' = ν ∧ X' = X))
  refine ev_ald3 1 dL_enroll_0 rfl ?_
  refine tj_iconst 2 dL_enroll_1 rfl ?_
  refine ev_ald0 3 dL_enroll_2 rfl ?_
  refine ev_ild1 4 dL_enroll_3 rfl ?_
  refine ev_ild2 5 dL_enroll_4 rfl ?_
  refine tz_V2 8 13 dL_enroll_5 lkv_L_70 (tr0 hT) rfl rfl (by decide) (Nat.le_of_ble_eq_true rfl) hc ?_
  refine xv_catch (name := "java/lang/IllegalStateException") [(0, 10, 13, 24)] [(0, 10, 21, 13), (0, 10, 25, 74), (0, 10, 29, 76), (0, 10, 33, 45)] rfl (fun z hz => by rcases (by simpa using hz : z = (0, 10, 13, 24)) with rfl <;> first | exact ⟨by decide, "java/lang/IndexOutOfBoundsException", List.mem_of_getElem? (i := 700) (by decide +kernel), by decide +kernel⟩) ⟨by decide, by decide⟩ (by decide) (List.mem_of_getElem? (i := 494) (by decide +kernel)) (List.mem_of_getElem? (i := 576) (by decide +kernel)) (fun q => ?_)
  refine ev_ast4 19 dL_enroll_17 rfl (by decide) rfl ?_
  refine tj_iconst 20 dL_enroll_19 rfl ?_
  exact ev_ireturn ⟨rfl, _, _, _, hT, rfl, rfl, rfl⟩ rfl dL_enroll_20
set_option maxRecDepth 100000 in
set_option maxHeartbeats 4000000 in
theorem w_enroll_x3 {g : Gt} {α : AL} {ν : Nat → Nat → Bool} {X : XM} {h : AH} (hT : TR g α ν X h) {p0 p1 : Int} (hc : Th g M_X11_enroll 28 [.ref (α 0 0), .int (J p0), .int (J p1)] h "java/lang/IllegalArgumentException") : Al g M_L_enroll 29 [.ref (α 0 0), .int (J p0), .int (J p1), .ref (α 90 0)] h 1 6 (some (.int (J 3))) (fun a n x => a = α ∧ n = ν ∧ x = X) := by
  refine ct_of_evH rfl rfl (ls := [some (.ref (α 0 0)), some (.int (J p0)), some (.int (J p1)), some (.ref (α 90 0)), none]) rfl (Nat.le_of_ble_eq_true rfl) ?_
  show Ev g M_L_enroll 29 0 [some (.ref (α 0 0)), some (.int (J p0)), some (.int (J p1)), some (.ref (α 90 0)), none] [] h (1 + 0) (6 + 0) (fun r h' => r = .inl (some (.int (J 3))) ∧ ∃ α' ν' X', TR g α' ν' X' h' ∧ (α' = α ∧ ν' = ν ∧ X' = X))
  refine ev_ald3 1 dL_enroll_0 rfl ?_
  refine tj_iconst 2 dL_enroll_1 rfl ?_
  refine ev_ald0 3 dL_enroll_2 rfl ?_
  refine ev_ild1 4 dL_enroll_3 rfl ?_
  refine ev_ild2 5 dL_enroll_4 rfl ?_
  refine tz_V2 8 13 dL_enroll_5 lkv_L_70 (tr0 hT) rfl rfl (by decide) (Nat.le_of_ble_eq_true rfl) hc ?_
  refine xv_catch (name := "java/lang/IllegalArgumentException") [(0, 10, 13, 24), (0, 10, 17, 15)] [(0, 10, 25, 74), (0, 10, 29, 76), (0, 10, 33, 45)] rfl (fun z hz => by rcases (by simpa using hz : z = (0, 10, 13, 24) ∨ z = (0, 10, 17, 15)) with rfl | rfl <;> first | exact ⟨by decide, "java/lang/IndexOutOfBoundsException", List.mem_of_getElem? (i := 700) (by decide +kernel), by decide +kernel⟩ | exact ⟨by decide, "java/lang/IllegalStateException", List.mem_of_getElem? (i := 494) (by decide +kernel), by decide +kernel⟩) ⟨by decide, by decide⟩ (by decide) (List.mem_of_getElem? (i := 493) (by decide +kernel)) (List.mem_of_getElem? (i := 504) (by decide +kernel)) (fun q => ?_)
  refine ev_ast4 23 dL_enroll_21 rfl (by decide) rfl ?_
  refine tj_iconst 24 dL_enroll_23 rfl ?_
  exact ev_ireturn ⟨rfl, _, _, _, hT, rfl, rfl, rfl⟩ rfl dL_enroll_24
set_option maxRecDepth 100000 in
set_option maxHeartbeats 4000000 in
theorem w_enroll_x4 {g : Gt} {α : AL} {ν : Nat → Nat → Bool} {X : XM} {h : AH} (hT : TR g α ν X h) {p0 p1 : Int} (hc : Th g M_X11_enroll 28 [.ref (α 0 0), .int (J p0), .int (J p1)] h "java/lang/UnsupportedOperationException") : Al g M_L_enroll 29 [.ref (α 0 0), .int (J p0), .int (J p1), .ref (α 90 0)] h 1 6 (some (.int (J 4))) (fun a n x => a = α ∧ n = ν ∧ x = X) := by
  refine ct_of_evH rfl rfl (ls := [some (.ref (α 0 0)), some (.int (J p0)), some (.int (J p1)), some (.ref (α 90 0)), none]) rfl (Nat.le_of_ble_eq_true rfl) ?_
  show Ev g M_L_enroll 29 0 [some (.ref (α 0 0)), some (.int (J p0)), some (.int (J p1)), some (.ref (α 90 0)), none] [] h (1 + 0) (6 + 0) (fun r h' => r = .inl (some (.int (J 4))) ∧ ∃ α' ν' X', TR g α' ν' X' h' ∧ (α' = α ∧ ν' = ν ∧ X' = X))
  refine ev_ald3 1 dL_enroll_0 rfl ?_
  refine tj_iconst 2 dL_enroll_1 rfl ?_
  refine ev_ald0 3 dL_enroll_2 rfl ?_
  refine ev_ild1 4 dL_enroll_3 rfl ?_
  refine ev_ild2 5 dL_enroll_4 rfl ?_
  refine tz_V2 8 13 dL_enroll_5 lkv_L_70 (tr0 hT) rfl rfl (by decide) (Nat.le_of_ble_eq_true rfl) hc ?_
  refine xv_catch (name := "java/lang/UnsupportedOperationException") [(0, 10, 13, 24), (0, 10, 17, 15), (0, 10, 21, 13)] [(0, 10, 29, 76), (0, 10, 33, 45)] rfl (fun z hz => by rcases (by simpa using hz : z = (0, 10, 13, 24) ∨ z = (0, 10, 17, 15) ∨ z = (0, 10, 21, 13)) with rfl | rfl | rfl <;> first | exact ⟨by decide, "java/lang/IndexOutOfBoundsException", List.mem_of_getElem? (i := 700) (by decide +kernel), by decide +kernel⟩ | exact ⟨by decide, "java/lang/IllegalStateException", List.mem_of_getElem? (i := 494) (by decide +kernel), by decide +kernel⟩ | exact ⟨by decide, "java/lang/IllegalArgumentException", List.mem_of_getElem? (i := 493) (by decide +kernel), by decide +kernel⟩) ⟨by decide, by decide⟩ (by decide) (List.mem_of_getElem? (i := 985) (by decide +kernel)) (List.mem_of_getElem? (i := 1018) (by decide +kernel)) (fun q => ?_)
  refine ev_ast4 27 dL_enroll_25 rfl (by decide) rfl ?_
  refine tj_iconst 28 dL_enroll_27 rfl ?_
  exact ev_ireturn ⟨rfl, _, _, _, hT, rfl, rfl, rfl⟩ rfl dL_enroll_28
set_option maxRecDepth 100000 in
set_option maxHeartbeats 4000000 in
theorem w_enroll_x5 {g : Gt} {α : AL} {ν : Nat → Nat → Bool} {X : XM} {h : AH} (hT : TR g α ν X h) {p0 p1 : Int} (hc : Th g M_X11_enroll 28 [.ref (α 0 0), .int (J p0), .int (J p1)] h "java/lang/ArithmeticException") : Al g M_L_enroll 29 [.ref (α 0 0), .int (J p0), .int (J p1), .ref (α 90 0)] h 1 6 (some (.int (J 5))) (fun a n x => a = α ∧ n = ν ∧ x = X) := by
  refine ct_of_evH rfl rfl (ls := [some (.ref (α 0 0)), some (.int (J p0)), some (.int (J p1)), some (.ref (α 90 0)), none]) rfl (Nat.le_of_ble_eq_true rfl) ?_
  show Ev g M_L_enroll 29 0 [some (.ref (α 0 0)), some (.int (J p0)), some (.int (J p1)), some (.ref (α 90 0)), none] [] h (1 + 0) (6 + 0) (fun r h' => r = .inl (some (.int (J 5))) ∧ ∃ α' ν' X', TR g α' ν' X' h' ∧ (α' = α ∧ ν' = ν ∧ X' = X))
  refine ev_ald3 1 dL_enroll_0 rfl ?_
  refine tj_iconst 2 dL_enroll_1 rfl ?_
  refine ev_ald0 3 dL_enroll_2 rfl ?_
  refine ev_ild1 4 dL_enroll_3 rfl ?_
  refine ev_ild2 5 dL_enroll_4 rfl ?_
  refine tz_V2 8 13 dL_enroll_5 lkv_L_70 (tr0 hT) rfl rfl (by decide) (Nat.le_of_ble_eq_true rfl) hc ?_
  refine xv_catch (name := "java/lang/ArithmeticException") [(0, 10, 13, 24), (0, 10, 17, 15), (0, 10, 21, 13), (0, 10, 25, 74)] [(0, 10, 33, 45)] rfl (fun z hz => by rcases (by simpa using hz : z = (0, 10, 13, 24) ∨ z = (0, 10, 17, 15) ∨ z = (0, 10, 21, 13) ∨ z = (0, 10, 25, 74)) with rfl | rfl | rfl | rfl <;> first | exact ⟨by decide, "java/lang/IndexOutOfBoundsException", List.mem_of_getElem? (i := 700) (by decide +kernel), by decide +kernel⟩ | exact ⟨by decide, "java/lang/IllegalStateException", List.mem_of_getElem? (i := 494) (by decide +kernel), by decide +kernel⟩ | exact ⟨by decide, "java/lang/IllegalArgumentException", List.mem_of_getElem? (i := 493) (by decide +kernel), by decide +kernel⟩ | exact ⟨by decide, "java/lang/UnsupportedOperationException", List.mem_of_getElem? (i := 985) (by decide +kernel), by decide +kernel⟩) ⟨by decide, by decide⟩ (by decide) (List.mem_of_getElem? (i := 986) (by decide +kernel)) (List.mem_of_getElem? (i := 998) (by decide +kernel)) (fun q => ?_)
  refine ev_ast4 31 dL_enroll_29 rfl (by decide) rfl ?_
  refine tj_iconst 32 dL_enroll_31 rfl ?_
  exact ev_ireturn ⟨rfl, _, _, _, hT, rfl, rfl, rfl⟩ rfl dL_enroll_32
set_option maxRecDepth 100000 in
set_option maxHeartbeats 4000000 in
theorem w_enroll_x6 {g : Gt} {α : AL} {ν : Nat → Nat → Bool} {X : XM} {h : AH} (hT : TR g α ν X h) {p0 p1 : Int} (hc : Th g M_X11_enroll 28 [.ref (α 0 0), .int (J p0), .int (J p1)] h "java/util/NoSuchElementException") : Al g M_L_enroll 29 [.ref (α 0 0), .int (J p0), .int (J p1), .ref (α 90 0)] h 1 6 (some (.int (J 6))) (fun a n x => a = α ∧ n = ν ∧ x = X) := by
  refine ct_of_evH rfl rfl (ls := [some (.ref (α 0 0)), some (.int (J p0)), some (.int (J p1)), some (.ref (α 90 0)), none]) rfl (Nat.le_of_ble_eq_true rfl) ?_
  show Ev g M_L_enroll 29 0 [some (.ref (α 0 0)), some (.int (J p0)), some (.int (J p1)), some (.ref (α 90 0)), none] [] h (1 + 0) (6 + 0) (fun r h' => r = .inl (some (.int (J 6))) ∧ ∃ α' ν' X', TR g α' ν' X' h' ∧ (α' = α ∧ ν' = ν ∧ X' = X))
  refine ev_ald3 1 dL_enroll_0 rfl ?_
  refine tj_iconst 2 dL_enroll_1 rfl ?_
  refine ev_ald0 3 dL_enroll_2 rfl ?_
  refine ev_ild1 4 dL_enroll_3 rfl ?_
  refine ev_ild2 5 dL_enroll_4 rfl ?_
  refine tz_V2 8 13 dL_enroll_5 lkv_L_70 (tr0 hT) rfl rfl (by decide) (Nat.le_of_ble_eq_true rfl) hc ?_
  refine xv_catch (name := "java/util/NoSuchElementException") [(0, 10, 13, 24), (0, 10, 17, 15), (0, 10, 21, 13), (0, 10, 25, 74), (0, 10, 29, 76)] [] rfl (fun z hz => by rcases (by simpa using hz : z = (0, 10, 13, 24) ∨ z = (0, 10, 17, 15) ∨ z = (0, 10, 21, 13) ∨ z = (0, 10, 25, 74) ∨ z = (0, 10, 29, 76)) with rfl | rfl | rfl | rfl | rfl <;> first | exact ⟨by decide, "java/lang/IndexOutOfBoundsException", List.mem_of_getElem? (i := 700) (by decide +kernel), by decide +kernel⟩ | exact ⟨by decide, "java/lang/IllegalStateException", List.mem_of_getElem? (i := 494) (by decide +kernel), by decide +kernel⟩ | exact ⟨by decide, "java/lang/IllegalArgumentException", List.mem_of_getElem? (i := 493) (by decide +kernel), by decide +kernel⟩ | exact ⟨by decide, "java/lang/UnsupportedOperationException", List.mem_of_getElem? (i := 985) (by decide +kernel), by decide +kernel⟩ | exact ⟨by decide, "java/lang/ArithmeticException", List.mem_of_getElem? (i := 986) (by decide +kernel), by decide +kernel⟩) ⟨by decide, by decide⟩ (by decide) (List.mem_of_getElem? (i := 867) (by decide +kernel)) (List.mem_of_getElem? (i := 878) (by decide +kernel)) (fun q => ?_)
  refine ev_ast4 35 dL_enroll_33 rfl (by decide) rfl ?_
  refine tj_bipush 37 dL_enroll_35 (by decide) rfl ?_
  exact ev_ireturn ⟨rfl, _, _, _, hT, rfl, rfl, rfl⟩ rfl dL_enroll_37
abbrev M_L_enrolled : Mt := (yL_enrolled, cL_enrolled, 4, (Option.some Jvm.ClassFile.FieldType.int), [(0, 9, 12, 24)])
set_option maxRecDepth 100000 in
set_option maxHeartbeats 4000000 in
theorem w_enrolled_ok {g : Gt} {α : AL} {ν : Nat → Nat → Bool} {X : XM} {h : AH} (hT : TR g α ν X h) {p0 : Int} {z : Int} (hz : R31 z) {P : AL → (Nat → Nat → Bool) → XM → Prop} {mc ms : Nat} (hA : ∀ a n x, P a n x → a 90 0 = α 90 0) (hc : Al g M_X11_enrolled 28 [.ref (α 0 0), .int (J p0)] h mc ms (some (.int (J z))) P) : Al g M_L_enrolled 29 [.ref (α 0 0), .int (J p0), .ref (α 90 0)] h mc ms (some (.int (J 0))) (fun a n x => ∃ x0, P a n x0 ∧ x = xs x0 90 0 0 z) := by
  refine ct_of_evH rfl rfl (ls := [some (.ref (α 0 0)), some (.int (J p0)), some (.ref (α 90 0)), none]) rfl (Nat.le_of_ble_eq_true rfl) ?_
  show Ev g M_L_enrolled 29 0 [some (.ref (α 0 0)), some (.int (J p0)), some (.ref (α 90 0)), none] [] h (mc + 0) (ms + 0) (fun r h' => r = .inl (some (.int (J 0))) ∧ ∃ α' ν' X', TR g α' ν' X' h' ∧ ∃ x0, P α' ν' x0 ∧ X' = xs x0 90 0 0 z)
  refine ev_ald2 1 dL_enrolled_0 rfl ?_
  refine tj_iconst 2 dL_enrolled_1 rfl ?_
  refine ev_ald0 3 dL_enrolled_2 rfl ?_
  refine ev_ild1 4 dL_enrolled_3 rfl ?_
  refine ta_V1 7 13 dL_enrolled_4 lkv_L_117 (tr0 hT) rfl rfl (by decide) (Nat.le_of_ble_eq_true rfl) hc (fun h α' ν' X1 hT hP => ?_)
  rw [← hA _ _ _ hP]
  refine ev_i2l 8 dL_enrolled_7 rfl ?_
  rw [J_i2l _ hz]
  refine tv_last 9 hT rfl hz dL_enrolled_8 rfl (fun h hT => ?_)
  refine ev_goto 15 dL_enrolled_9 (by decide) ?_
  refine tj_iconst 16 dL_enrolled_15 rfl ?_
  exact ev_ireturn ⟨rfl, _, _, _, hT, _, hP, rfl⟩ rfl dL_enrolled_16
set_option maxRecDepth 100000 in
set_option maxHeartbeats 4000000 in
theorem w_enrolled_x1 {g : Gt} {α : AL} {ν : Nat → Nat → Bool} {X : XM} {h : AH} (hT : TR g α ν X h) {p0 : Int} (hc : Th g M_X11_enrolled 28 [.ref (α 0 0), .int (J p0)] h "java/lang/IndexOutOfBoundsException") : Al g M_L_enrolled 29 [.ref (α 0 0), .int (J p0), .ref (α 90 0)] h 1 6 (some (.int (J 1))) (fun a n x => a = α ∧ n = ν ∧ x = X) := by
  refine ct_of_evH rfl rfl (ls := [some (.ref (α 0 0)), some (.int (J p0)), some (.ref (α 90 0)), none]) rfl (Nat.le_of_ble_eq_true rfl) ?_
  show Ev g M_L_enrolled 29 0 [some (.ref (α 0 0)), some (.int (J p0)), some (.ref (α 90 0)), none] [] h (1 + 0) (6 + 0) (fun r h' => r = .inl (some (.int (J 1))) ∧ ∃ α' ν' X', TR g α' ν' X' h' ∧ (α' = α ∧ ν' = ν ∧ X' = X))
  refine ev_ald2 1 dL_enrolled_0 rfl ?_
  refine tj_iconst 2 dL_enrolled_1 rfl ?_
  refine ev_ald0 3 dL_enrolled_2 rfl ?_
  refine ev_ild1 4 dL_enrolled_3 rfl ?_
  refine tz_V1 7 13 dL_enrolled_4 lkv_L_117 (tr0 hT) rfl rfl (by decide) (Nat.le_of_ble_eq_true rfl) hc ?_
  refine xv_catch (name := "java/lang/IndexOutOfBoundsException") [] [] rfl (fun z hz => by cases hz) ⟨by decide, by decide⟩ (by decide) (List.mem_of_getElem? (i := 700) (by decide +kernel)) (List.mem_of_getElem? (i := 734) (by decide +kernel)) (fun q => ?_)
  refine ev_ast3 13 dL_enrolled_12 rfl (by decide) rfl ?_
  refine tj_iconst 14 dL_enrolled_13 rfl ?_
  exact ev_ireturn ⟨rfl, _, _, _, hT, rfl, rfl, rfl⟩ rfl dL_enrolled_14
abbrev M_L_freeSeats : Mt := (yL_freeSeats, cL_freeSeats, 5, (Option.some Jvm.ClassFile.FieldType.int), [(0, 10, 13, 24), (0, 10, 17, 13)])
set_option maxRecDepth 100000 in
set_option maxHeartbeats 4000000 in
theorem w_freeSeats_ok {g : Gt} {α : AL} {ν : Nat → Nat → Bool} {X : XM} {h : AH} (hT : TR g α ν X h) {p0 p1 : Int} {z : Int} (hz : R31 z) {P : AL → (Nat → Nat → Bool) → XM → Prop} {mc ms : Nat} (hA : ∀ a n x, P a n x → a 90 0 = α 90 0) (hc : Al g M_X11_freeSeats 28 [.ref (α 0 0), .int (J p0), .int (J p1)] h mc ms (some (.int (J z))) P) : Al g M_L_freeSeats 29 [.ref (α 0 0), .int (J p0), .int (J p1), .ref (α 90 0)] h mc ms (some (.int (J 0))) (fun a n x => ∃ x0, P a n x0 ∧ x = xs x0 90 0 0 z) := by
  refine ct_of_evH rfl rfl (ls := [some (.ref (α 0 0)), some (.int (J p0)), some (.int (J p1)), some (.ref (α 90 0)), none]) rfl (Nat.le_of_ble_eq_true rfl) ?_
  show Ev g M_L_freeSeats 29 0 [some (.ref (α 0 0)), some (.int (J p0)), some (.int (J p1)), some (.ref (α 90 0)), none] [] h (mc + 0) (ms + 0) (fun r h' => r = .inl (some (.int (J 0))) ∧ ∃ α' ν' X', TR g α' ν' X' h' ∧ ∃ x0, P α' ν' x0 ∧ X' = xs x0 90 0 0 z)
  refine ev_ald3 1 dL_freeSeats_0 rfl ?_
  refine tj_iconst 2 dL_freeSeats_1 rfl ?_
  refine ev_ald0 3 dL_freeSeats_2 rfl ?_
  refine ev_ild1 4 dL_freeSeats_3 rfl ?_
  refine ev_ild2 5 dL_freeSeats_4 rfl ?_
  refine ta_V2 8 13 dL_freeSeats_5 lkv_L_126 (tr0 hT) rfl rfl (by decide) (Nat.le_of_ble_eq_true rfl) hc (fun h α' ν' X1 hT hP => ?_)
  rw [← hA _ _ _ hP]
  refine ev_i2l 9 dL_freeSeats_8 rfl ?_
  rw [J_i2l _ hz]
  refine tv_last 10 hT rfl hz dL_freeSeats_9 rfl (fun h hT => ?_)
  refine ev_goto 21 dL_freeSeats_10 (by decide) ?_
  refine tj_iconst 22 dL_freeSeats_21 rfl ?_
  exact ev_ireturn ⟨rfl, _, _, _, hT, _, hP, rfl⟩ rfl dL_freeSeats_22
set_option maxRecDepth 100000 in
set_option maxHeartbeats 4000000 in
theorem w_freeSeats_x1 {g : Gt} {α : AL} {ν : Nat → Nat → Bool} {X : XM} {h : AH} (hT : TR g α ν X h) {p0 p1 : Int} (hc : Th g M_X11_freeSeats 28 [.ref (α 0 0), .int (J p0), .int (J p1)] h "java/lang/IndexOutOfBoundsException") : Al g M_L_freeSeats 29 [.ref (α 0 0), .int (J p0), .int (J p1), .ref (α 90 0)] h 1 6 (some (.int (J 1))) (fun a n x => a = α ∧ n = ν ∧ x = X) := by
  refine ct_of_evH rfl rfl (ls := [some (.ref (α 0 0)), some (.int (J p0)), some (.int (J p1)), some (.ref (α 90 0)), none]) rfl (Nat.le_of_ble_eq_true rfl) ?_
  show Ev g M_L_freeSeats 29 0 [some (.ref (α 0 0)), some (.int (J p0)), some (.int (J p1)), some (.ref (α 90 0)), none] [] h (1 + 0) (6 + 0) (fun r h' => r = .inl (some (.int (J 1))) ∧ ∃ α' ν' X', TR g α' ν' X' h' ∧ (α' = α ∧ ν' = ν ∧ X' = X))
  refine ev_ald3 1 dL_freeSeats_0 rfl ?_
  refine tj_iconst 2 dL_freeSeats_1 rfl ?_
  refine ev_ald0 3 dL_freeSeats_2 rfl ?_
  refine ev_ild1 4 dL_freeSeats_3 rfl ?_
  refine ev_ild2 5 dL_freeSeats_4 rfl ?_
  refine tz_V2 8 13 dL_freeSeats_5 lkv_L_126 (tr0 hT) rfl rfl (by decide) (Nat.le_of_ble_eq_true rfl) hc ?_
  refine xv_catch (name := "java/lang/IndexOutOfBoundsException") [] [(0, 10, 17, 13)] rfl (fun z hz => by cases hz) ⟨by decide, by decide⟩ (by decide) (List.mem_of_getElem? (i := 700) (by decide +kernel)) (List.mem_of_getElem? (i := 734) (by decide +kernel)) (fun q => ?_)
  refine ev_ast4 15 dL_freeSeats_13 rfl (by decide) rfl ?_
  refine tj_iconst 16 dL_freeSeats_15 rfl ?_
  exact ev_ireturn ⟨rfl, _, _, _, hT, rfl, rfl, rfl⟩ rfl dL_freeSeats_16
set_option maxRecDepth 100000 in
set_option maxHeartbeats 4000000 in
theorem w_freeSeats_x2 {g : Gt} {α : AL} {ν : Nat → Nat → Bool} {X : XM} {h : AH} (hT : TR g α ν X h) {p0 p1 : Int} (hc : Th g M_X11_freeSeats 28 [.ref (α 0 0), .int (J p0), .int (J p1)] h "java/lang/IllegalArgumentException") : Al g M_L_freeSeats 29 [.ref (α 0 0), .int (J p0), .int (J p1), .ref (α 90 0)] h 1 6 (some (.int (J 2))) (fun a n x => a = α ∧ n = ν ∧ x = X) := by
  refine ct_of_evH rfl rfl (ls := [some (.ref (α 0 0)), some (.int (J p0)), some (.int (J p1)), some (.ref (α 90 0)), none]) rfl (Nat.le_of_ble_eq_true rfl) ?_
  show Ev g M_L_freeSeats 29 0 [some (.ref (α 0 0)), some (.int (J p0)), some (.int (J p1)), some (.ref (α 90 0)), none] [] h (1 + 0) (6 + 0) (fun r h' => r = .inl (some (.int (J 2))) ∧ ∃ α' ν' X', TR g α' ν' X' h' ∧ (α' = α ∧ ν' = ν ∧ X' = X))
  refine ev_ald3 1 dL_freeSeats_0 rfl ?_
  refine tj_iconst 2 dL_freeSeats_1 rfl ?_
  refine ev_ald0 3 dL_freeSeats_2 rfl ?_
  refine ev_ild1 4 dL_freeSeats_3 rfl ?_
  refine ev_ild2 5 dL_freeSeats_4 rfl ?_
  refine tz_V2 8 13 dL_freeSeats_5 lkv_L_126 (tr0 hT) rfl rfl (by decide) (Nat.le_of_ble_eq_true rfl) hc ?_
  refine xv_catch (name := "java/lang/IllegalArgumentException") [(0, 10, 13, 24)] [] rfl (fun z hz => by rcases (by simpa using hz : z = (0, 10, 13, 24)) with rfl <;> first | exact ⟨by decide, "java/lang/IndexOutOfBoundsException", List.mem_of_getElem? (i := 700) (by decide +kernel), by decide +kernel⟩) ⟨by decide, by decide⟩ (by decide) (List.mem_of_getElem? (i := 493) (by decide +kernel)) (List.mem_of_getElem? (i := 504) (by decide +kernel)) (fun q => ?_)
  refine ev_ast4 19 dL_freeSeats_17 rfl (by decide) rfl ?_
  refine tj_iconst 20 dL_freeSeats_19 rfl ?_
  exact ev_ireturn ⟨rfl, _, _, _, hT, rfl, rfl, rfl⟩ rfl dL_freeSeats_20
abbrev M_L_holds : Mt := (yL_holds, cL_holds, 5, (Option.some Jvm.ClassFile.FieldType.int), [(0, 17, 20, 24), (0, 17, 24, 45)])
set_option maxRecDepth 100000 in
set_option maxHeartbeats 4000000 in
theorem w_holds_ok {g : Gt} {α : AL} {ν : Nat → Nat → Bool} {X : XM} {h : AH} (hT : TR g α ν X h) {p0 p1 : Int} {q : Bool} {P : AL → (Nat → Nat → Bool) → XM → Prop} {mc ms : Nat} (hA : ∀ a n x, P a n x → a 90 0 = α 90 0) (hc : Al g M_X11_holds 28 [.ref (α 0 0), .int (J p0), .int (J p1)] h mc ms (some (.int (J (bi q)))) P) : Al g M_L_holds 29 [.ref (α 0 0), .int (J p0), .int (J p1), .ref (α 90 0)] h mc ms (some (.int (J 0))) (fun a n x => ∃ x0, P a n x0 ∧ x = xs x0 90 0 0 (bi q)) := by
  refine ct_of_evH rfl rfl (ls := [some (.ref (α 0 0)), some (.int (J p0)), some (.int (J p1)), some (.ref (α 90 0)), none]) rfl (Nat.le_of_ble_eq_true rfl) ?_
  show Ev g M_L_holds 29 0 [some (.ref (α 0 0)), some (.int (J p0)), some (.int (J p1)), some (.ref (α 90 0)), none] [] h (mc + 0) (ms + 0) (fun r h' => r = .inl (some (.int (J 0))) ∧ ∃ α' ν' X', TR g α' ν' X' h' ∧ ∃ x0, P α' ν' x0 ∧ X' = xs x0 90 0 0 (bi q))
  refine ev_ald3 1 dL_holds_0 rfl ?_
  refine tj_iconst 2 dL_holds_1 rfl ?_
  refine ev_ald0 3 dL_holds_2 rfl ?_
  refine ev_ild1 4 dL_holds_3 rfl ?_
  refine ev_ild2 5 dL_holds_4 rfl ?_
  refine ta_V2 8 13 dL_holds_5 lkv_L_56 (tr0 hT) rfl rfl (by decide) (Nat.le_of_ble_eq_true rfl) hc (fun h α' ν' X1 hT hP => ?_)
  rw [← hA _ _ _ hP]
  cases q with
  | false =>
    refine tb_if_eq 15 11 dL_holds_8 (by decide) rfl (fun c0 => ?_) (fun c0 => ?_)
    · skip
      refine ev_lconst (Int64.ofInt (bi false)) 16 dL_holds_15 (by decide) rfl ?_
      refine tv_last 17 hT rfl (bi_R false) dL_holds_16 rfl (fun h hT => ?_)
      refine ev_goto 28 dL_holds_17 (by decide) ?_
      refine tj_iconst 29 dL_holds_28 rfl ?_
      exact ev_ireturn ⟨rfl, _, _, _, hT, _, hP, rfl⟩ rfl dL_holds_29
    · cases c0
  | true =>
    refine tb_if_eq 15 11 dL_holds_8 (by decide) rfl (fun c0 => ?_) (fun c0 => ?_)
    · cases c0
    · skip
      refine ev_lconst (Int64.ofInt (bi true)) 12 dL_holds_11 (by decide) rfl ?_
      refine ev_goto 16 dL_holds_12 (by decide) ?_
      refine tv_last 17 hT rfl (bi_R true) dL_holds_16 rfl (fun h hT => ?_)
      refine ev_goto 28 dL_holds_17 (by decide) ?_
      refine tj_iconst 29 dL_holds_28 rfl ?_
      exact ev_ireturn ⟨rfl, _, _, _, hT, _, hP, rfl⟩ rfl dL_holds_29
set_option maxRecDepth 100000 in
set_option maxHeartbeats 4000000 in
theorem w_holds_x1 {g : Gt} {α : AL} {ν : Nat → Nat → Bool} {X : XM} {h : AH} (hT : TR g α ν X h) {p0 p1 : Int} (hc : Th g M_X11_holds 28 [.ref (α 0 0), .int (J p0), .int (J p1)] h "java/lang/IndexOutOfBoundsException") : Al g M_L_holds 29 [.ref (α 0 0), .int (J p0), .int (J p1), .ref (α 90 0)] h 1 6 (some (.int (J 1))) (fun a n x => a = α ∧ n = ν ∧ x = X) := by
  refine ct_of_evH rfl rfl (ls := [some (.ref (α 0 0)), some (.int (J p0)), some (.int (J p1)), some (.ref (α 90 0)), none]) rfl (Nat.le_of_ble_eq_true rfl) ?_
  show Ev g M_L_holds 29 0 [some (.ref (α 0 0)), some (.int (J p0)), some (.int (J p1)), some (.ref (α 90 0)), none] [] h (1 + 0) (6 + 0) (fun r h' => r = .inl (some (.int (J 1))) ∧ ∃ α' ν' X', TR g α' ν' X' h' ∧ (α' = α ∧ ν' = ν ∧ X' = X))
  refine ev_ald3 1 dL_holds_0 rfl ?_
  refine tj_iconst 2 dL_holds_1 rfl ?_
  refine ev_ald0 3 dL_holds_2 rfl ?_
  refine ev_ild1 4 dL_holds_3 rfl ?_
  refine ev_ild2 5 dL_holds_4 rfl ?_
  refine tz_V2 8 13 dL_holds_5 lkv_L_56 (tr0 hT) rfl rfl (by decide) (Nat.le_of_ble_eq_true rfl) hc ?_
  refine xv_catch (name := "java/lang/IndexOutOfBoundsException") [] [(0, 17, 24, 45)] rfl (fun z hz => by cases hz) ⟨by decide, by decide⟩ (by decide) (List.mem_of_getElem? (i := 700) (by decide +kernel)) (List.mem_of_getElem? (i := 734) (by decide +kernel)) (fun q => ?_)
  refine ev_ast4 22 dL_holds_20 rfl (by decide) rfl ?_
  refine tj_iconst 23 dL_holds_22 rfl ?_
  exact ev_ireturn ⟨rfl, _, _, _, hT, rfl, rfl, rfl⟩ rfl dL_holds_23
set_option maxRecDepth 100000 in
set_option maxHeartbeats 4000000 in
theorem w_holds_x2 {g : Gt} {α : AL} {ν : Nat → Nat → Bool} {X : XM} {h : AH} (hT : TR g α ν X h) {p0 p1 : Int} (hc : Th g M_X11_holds 28 [.ref (α 0 0), .int (J p0), .int (J p1)] h "java/util/NoSuchElementException") : Al g M_L_holds 29 [.ref (α 0 0), .int (J p0), .int (J p1), .ref (α 90 0)] h 1 6 (some (.int (J 2))) (fun a n x => a = α ∧ n = ν ∧ x = X) := by
  refine ct_of_evH rfl rfl (ls := [some (.ref (α 0 0)), some (.int (J p0)), some (.int (J p1)), some (.ref (α 90 0)), none]) rfl (Nat.le_of_ble_eq_true rfl) ?_
  show Ev g M_L_holds 29 0 [some (.ref (α 0 0)), some (.int (J p0)), some (.int (J p1)), some (.ref (α 90 0)), none] [] h (1 + 0) (6 + 0) (fun r h' => r = .inl (some (.int (J 2))) ∧ ∃ α' ν' X', TR g α' ν' X' h' ∧ (α' = α ∧ ν' = ν ∧ X' = X))
  refine ev_ald3 1 dL_holds_0 rfl ?_
  refine tj_iconst 2 dL_holds_1 rfl ?_
  refine ev_ald0 3 dL_holds_2 rfl ?_
  refine ev_ild1 4 dL_holds_3 rfl ?_
  refine ev_ild2 5 dL_holds_4 rfl ?_
  refine tz_V2 8 13 dL_holds_5 lkv_L_56 (tr0 hT) rfl rfl (by decide) (Nat.le_of_ble_eq_true rfl) hc ?_
  refine xv_catch (name := "java/util/NoSuchElementException") [(0, 17, 20, 24)] [] rfl (fun z hz => by rcases (by simpa using hz : z = (0, 17, 20, 24)) with rfl <;> first | exact ⟨by decide, "java/lang/IndexOutOfBoundsException", List.mem_of_getElem? (i := 700) (by decide +kernel), by decide +kernel⟩) ⟨by decide, by decide⟩ (by decide) (List.mem_of_getElem? (i := 867) (by decide +kernel)) (List.mem_of_getElem? (i := 878) (by decide +kernel)) (fun q => ?_)
  refine ev_ast4 26 dL_holds_24 rfl (by decide) rfl ?_
  refine tj_iconst 27 dL_holds_26 rfl ?_
  exact ev_ireturn ⟨rfl, _, _, _, hT, rfl, rfl, rfl⟩ rfl dL_holds_27
abbrev M_L_isEnrolled : Mt := (yL_isEnrolled, cL_isEnrolled, 5, (Option.some Jvm.ClassFile.FieldType.int), [(0, 17, 20, 24)])
set_option maxRecDepth 100000 in
set_option maxHeartbeats 4000000 in
theorem w_isEnrolled_ok {g : Gt} {α : AL} {ν : Nat → Nat → Bool} {X : XM} {h : AH} (hT : TR g α ν X h) {p0 p1 : Int} {q : Bool} {P : AL → (Nat → Nat → Bool) → XM → Prop} {mc ms : Nat} (hA : ∀ a n x, P a n x → a 90 0 = α 90 0) (hc : Al g M_X11_isEnrolled 28 [.ref (α 0 0), .int (J p0), .int (J p1)] h mc ms (some (.int (J (bi q)))) P) : Al g M_L_isEnrolled 29 [.ref (α 0 0), .int (J p0), .int (J p1), .ref (α 90 0)] h mc ms (some (.int (J 0))) (fun a n x => ∃ x0, P a n x0 ∧ x = xs x0 90 0 0 (bi q)) := by
  refine ct_of_evH rfl rfl (ls := [some (.ref (α 0 0)), some (.int (J p0)), some (.int (J p1)), some (.ref (α 90 0)), none]) rfl (Nat.le_of_ble_eq_true rfl) ?_
  show Ev g M_L_isEnrolled 29 0 [some (.ref (α 0 0)), some (.int (J p0)), some (.int (J p1)), some (.ref (α 90 0)), none] [] h (mc + 0) (ms + 0) (fun r h' => r = .inl (some (.int (J 0))) ∧ ∃ α' ν' X', TR g α' ν' X' h' ∧ ∃ x0, P α' ν' x0 ∧ X' = xs x0 90 0 0 (bi q))
  refine ev_ald3 1 dL_isEnrolled_0 rfl ?_
  refine tj_iconst 2 dL_isEnrolled_1 rfl ?_
  refine ev_ald0 3 dL_isEnrolled_2 rfl ?_
  refine ev_ild1 4 dL_isEnrolled_3 rfl ?_
  refine ev_ild2 5 dL_isEnrolled_4 rfl ?_
  refine ta_V2 8 13 dL_isEnrolled_5 lkv_L_114 (tr0 hT) rfl rfl (by decide) (Nat.le_of_ble_eq_true rfl) hc (fun h α' ν' X1 hT hP => ?_)
  rw [← hA _ _ _ hP]
  cases q with
  | false =>
    refine tb_if_eq 15 11 dL_isEnrolled_8 (by decide) rfl (fun c0 => ?_) (fun c0 => ?_)
    · skip
      refine ev_lconst (Int64.ofInt (bi false)) 16 dL_isEnrolled_15 (by decide) rfl ?_
      refine tv_last 17 hT rfl (bi_R false) dL_isEnrolled_16 rfl (fun h hT => ?_)
      refine ev_goto 24 dL_isEnrolled_17 (by decide) ?_
      refine tj_iconst 25 dL_isEnrolled_24 rfl ?_
      exact ev_ireturn ⟨rfl, _, _, _, hT, _, hP, rfl⟩ rfl dL_isEnrolled_25
    · cases c0
  | true =>
    refine tb_if_eq 15 11 dL_isEnrolled_8 (by decide) rfl (fun c0 => ?_) (fun c0 => ?_)
    · cases c0
    · skip
      refine ev_lconst (Int64.ofInt (bi true)) 12 dL_isEnrolled_11 (by decide) rfl ?_
      refine ev_goto 16 dL_isEnrolled_12 (by decide) ?_
      refine tv_last 17 hT rfl (bi_R true) dL_isEnrolled_16 rfl (fun h hT => ?_)
      refine ev_goto 24 dL_isEnrolled_17 (by decide) ?_
      refine tj_iconst 25 dL_isEnrolled_24 rfl ?_
      exact ev_ireturn ⟨rfl, _, _, _, hT, _, hP, rfl⟩ rfl dL_isEnrolled_25
set_option maxRecDepth 100000 in
set_option maxHeartbeats 4000000 in
theorem w_isEnrolled_x1 {g : Gt} {α : AL} {ν : Nat → Nat → Bool} {X : XM} {h : AH} (hT : TR g α ν X h) {p0 p1 : Int} (hc : Th g M_X11_isEnrolled 28 [.ref (α 0 0), .int (J p0), .int (J p1)] h "java/lang/IndexOutOfBoundsException") : Al g M_L_isEnrolled 29 [.ref (α 0 0), .int (J p0), .int (J p1), .ref (α 90 0)] h 1 6 (some (.int (J 1))) (fun a n x => a = α ∧ n = ν ∧ x = X) := by
  refine ct_of_evH rfl rfl (ls := [some (.ref (α 0 0)), some (.int (J p0)), some (.int (J p1)), some (.ref (α 90 0)), none]) rfl (Nat.le_of_ble_eq_true rfl) ?_
  show Ev g M_L_isEnrolled 29 0 [some (.ref (α 0 0)), some (.int (J p0)), some (.int (J p1)), some (.ref (α 90 0)), none] [] h (1 + 0) (6 + 0) (fun r h' => r = .inl (some (.int (J 1))) ∧ ∃ α' ν' X', TR g α' ν' X' h' ∧ (α' = α ∧ ν' = ν ∧ X' = X))
  refine ev_ald3 1 dL_isEnrolled_0 rfl ?_
  refine tj_iconst 2 dL_isEnrolled_1 rfl ?_
  refine ev_ald0 3 dL_isEnrolled_2 rfl ?_
  refine ev_ild1 4 dL_isEnrolled_3 rfl ?_
  refine ev_ild2 5 dL_isEnrolled_4 rfl ?_
  refine tz_V2 8 13 dL_isEnrolled_5 lkv_L_114 (tr0 hT) rfl rfl (by decide) (Nat.le_of_ble_eq_true rfl) hc ?_
  refine xv_catch (name := "java/lang/IndexOutOfBoundsException") [] [] rfl (fun z hz => by cases hz) ⟨by decide, by decide⟩ (by decide) (List.mem_of_getElem? (i := 700) (by decide +kernel)) (List.mem_of_getElem? (i := 734) (by decide +kernel)) (fun q => ?_)
  refine ev_ast4 22 dL_isEnrolled_20 rfl (by decide) rfl ?_
  refine tj_iconst 23 dL_isEnrolled_22 rfl ?_
  exact ev_ireturn ⟨rfl, _, _, _, hT, rfl, rfl, rfl⟩ rfl dL_isEnrolled_23
abbrev M_L_lackingByTrial : Mt := (yL_lackingByTrial, cL_lackingByTrial, 4, (Option.some Jvm.ClassFile.FieldType.int), [(0, 9, 12, 24)])
set_option maxRecDepth 100000 in
set_option maxHeartbeats 4000000 in
theorem w_lackingByTrial_ok {g : Gt} {α : AL} {ν : Nat → Nat → Bool} {X : XM} {h : AH} (hT : TR g α ν X h) {p0 : Int} {z : Int} (hz : R31 z) {P : AL → (Nat → Nat → Bool) → XM → Prop} {mc ms : Nat} (hA : ∀ a n x, P a n x → a 90 0 = α 90 0) (hc : Al g M_X11_lackingByTrial 28 [.ref (α 0 0), .int (J p0)] h mc ms (some (.int (J z))) P) : Al g M_L_lackingByTrial 29 [.ref (α 0 0), .int (J p0), .ref (α 90 0)] h mc ms (some (.int (J 0))) (fun a n x => ∃ x0, P a n x0 ∧ x = xs x0 90 0 0 z) := by
  refine ct_of_evH rfl rfl (ls := [some (.ref (α 0 0)), some (.int (J p0)), some (.ref (α 90 0)), none]) rfl (Nat.le_of_ble_eq_true rfl) ?_
  show Ev g M_L_lackingByTrial 29 0 [some (.ref (α 0 0)), some (.int (J p0)), some (.ref (α 90 0)), none] [] h (mc + 0) (ms + 0) (fun r h' => r = .inl (some (.int (J 0))) ∧ ∃ α' ν' X', TR g α' ν' X' h' ∧ ∃ x0, P α' ν' x0 ∧ X' = xs x0 90 0 0 z)
  refine ev_ald2 1 dL_lackingByTrial_0 rfl ?_
  refine tj_iconst 2 dL_lackingByTrial_1 rfl ?_
  refine ev_ald0 3 dL_lackingByTrial_2 rfl ?_
  refine ev_ild1 4 dL_lackingByTrial_3 rfl ?_
  refine ta_V1 7 13 dL_lackingByTrial_4 lkv_L_166 (tr0 hT) rfl rfl (by decide) (Nat.le_of_ble_eq_true rfl) hc (fun h α' ν' X1 hT hP => ?_)
  rw [← hA _ _ _ hP]
  refine ev_i2l 8 dL_lackingByTrial_7 rfl ?_
  rw [J_i2l _ hz]
  refine tv_last 9 hT rfl hz dL_lackingByTrial_8 rfl (fun h hT => ?_)
  refine ev_goto 15 dL_lackingByTrial_9 (by decide) ?_
  refine tj_iconst 16 dL_lackingByTrial_15 rfl ?_
  exact ev_ireturn ⟨rfl, _, _, _, hT, _, hP, rfl⟩ rfl dL_lackingByTrial_16
set_option maxRecDepth 100000 in
set_option maxHeartbeats 4000000 in
theorem w_lackingByTrial_x1 {g : Gt} {α : AL} {ν : Nat → Nat → Bool} {X : XM} {h : AH} (hT : TR g α ν X h) {p0 : Int} (hc : Th g M_X11_lackingByTrial 28 [.ref (α 0 0), .int (J p0)] h "java/lang/IndexOutOfBoundsException") : Al g M_L_lackingByTrial 29 [.ref (α 0 0), .int (J p0), .ref (α 90 0)] h 1 6 (some (.int (J 1))) (fun a n x => a = α ∧ n = ν ∧ x = X) := by
  refine ct_of_evH rfl rfl (ls := [some (.ref (α 0 0)), some (.int (J p0)), some (.ref (α 90 0)), none]) rfl (Nat.le_of_ble_eq_true rfl) ?_
  show Ev g M_L_lackingByTrial 29 0 [some (.ref (α 0 0)), some (.int (J p0)), some (.ref (α 90 0)), none] [] h (1 + 0) (6 + 0) (fun r h' => r = .inl (some (.int (J 1))) ∧ ∃ α' ν' X', TR g α' ν' X' h' ∧ (α' = α ∧ ν' = ν ∧ X' = X))
  refine ev_ald2 1 dL_lackingByTrial_0 rfl ?_
  refine tj_iconst 2 dL_lackingByTrial_1 rfl ?_
  refine ev_ald0 3 dL_lackingByTrial_2 rfl ?_
  refine ev_ild1 4 dL_lackingByTrial_3 rfl ?_
  refine tz_V1 7 13 dL_lackingByTrial_4 lkv_L_166 (tr0 hT) rfl rfl (by decide) (Nat.le_of_ble_eq_true rfl) hc ?_
  refine xv_catch (name := "java/lang/IndexOutOfBoundsException") [] [] rfl (fun z hz => by cases hz) ⟨by decide, by decide⟩ (by decide) (List.mem_of_getElem? (i := 700) (by decide +kernel)) (List.mem_of_getElem? (i := 734) (by decide +kernel)) (fun q => ?_)
  refine ev_ast3 13 dL_lackingByTrial_12 rfl (by decide) rfl ?_
  refine tj_iconst 14 dL_lackingByTrial_13 rfl ?_
  exact ev_ireturn ⟨rfl, _, _, _, hT, rfl, rfl, rfl⟩ rfl dL_lackingByTrial_14
abbrev M_L_lackingRules : Mt := (yL_lackingRules, cL_lackingRules, 4, (Option.some Jvm.ClassFile.FieldType.int), [(0, 9, 12, 24)])
set_option maxRecDepth 100000 in
set_option maxHeartbeats 4000000 in
theorem w_lackingRules_ok {g : Gt} {α : AL} {ν : Nat → Nat → Bool} {X : XM} {h : AH} (hT : TR g α ν X h) {p0 : Int} {z : Int} (hz : R31 z) {P : AL → (Nat → Nat → Bool) → XM → Prop} {mc ms : Nat} (hA : ∀ a n x, P a n x → a 90 0 = α 90 0) (hc : Al g M_X11_lackingRules 28 [.ref (α 0 0), .int (J p0)] h mc ms (some (.int (J z))) P) : Al g M_L_lackingRules 29 [.ref (α 0 0), .int (J p0), .ref (α 90 0)] h mc ms (some (.int (J 0))) (fun a n x => ∃ x0, P a n x0 ∧ x = xs x0 90 0 0 z) := by
  refine ct_of_evH rfl rfl (ls := [some (.ref (α 0 0)), some (.int (J p0)), some (.ref (α 90 0)), none]) rfl (Nat.le_of_ble_eq_true rfl) ?_
  show Ev g M_L_lackingRules 29 0 [some (.ref (α 0 0)), some (.int (J p0)), some (.ref (α 90 0)), none] [] h (mc + 0) (ms + 0) (fun r h' => r = .inl (some (.int (J 0))) ∧ ∃ α' ν' X', TR g α' ν' X' h' ∧ ∃ x0, P α' ν' x0 ∧ X' = xs x0 90 0 0 z)
  refine ev_ald2 1 dL_lackingRules_0 rfl ?_
  refine tj_iconst 2 dL_lackingRules_1 rfl ?_
  refine ev_ald0 3 dL_lackingRules_2 rfl ?_
  refine ev_ild1 4 dL_lackingRules_3 rfl ?_
  refine ta_V1 7 13 dL_lackingRules_4 lkv_L_163 (tr0 hT) rfl rfl (by decide) (Nat.le_of_ble_eq_true rfl) hc (fun h α' ν' X1 hT hP => ?_)
  rw [← hA _ _ _ hP]
  refine ev_i2l 8 dL_lackingRules_7 rfl ?_
  rw [J_i2l _ hz]
  refine tv_last 9 hT rfl hz dL_lackingRules_8 rfl (fun h hT => ?_)
  refine ev_goto 15 dL_lackingRules_9 (by decide) ?_
  refine tj_iconst 16 dL_lackingRules_15 rfl ?_
  exact ev_ireturn ⟨rfl, _, _, _, hT, _, hP, rfl⟩ rfl dL_lackingRules_16
set_option maxRecDepth 100000 in
set_option maxHeartbeats 4000000 in
theorem w_lackingRules_x1 {g : Gt} {α : AL} {ν : Nat → Nat → Bool} {X : XM} {h : AH} (hT : TR g α ν X h) {p0 : Int} (hc : Th g M_X11_lackingRules 28 [.ref (α 0 0), .int (J p0)] h "java/lang/IndexOutOfBoundsException") : Al g M_L_lackingRules 29 [.ref (α 0 0), .int (J p0), .ref (α 90 0)] h 1 6 (some (.int (J 1))) (fun a n x => a = α ∧ n = ν ∧ x = X) := by
  refine ct_of_evH rfl rfl (ls := [some (.ref (α 0 0)), some (.int (J p0)), some (.ref (α 90 0)), none]) rfl (Nat.le_of_ble_eq_true rfl) ?_
  show Ev g M_L_lackingRules 29 0 [some (.ref (α 0 0)), some (.int (J p0)), some (.ref (α 90 0)), none] [] h (1 + 0) (6 + 0) (fun r h' => r = .inl (some (.int (J 1))) ∧ ∃ α' ν' X', TR g α' ν' X' h' ∧ (α' = α ∧ ν' = ν ∧ X' = X))
  refine ev_ald2 1 dL_lackingRules_0 rfl ?_
  refine tj_iconst 2 dL_lackingRules_1 rfl ?_
  refine ev_ald0 3 dL_lackingRules_2 rfl ?_
  refine ev_ild1 4 dL_lackingRules_3 rfl ?_
  refine tz_V1 7 13 dL_lackingRules_4 lkv_L_163 (tr0 hT) rfl rfl (by decide) (Nat.le_of_ble_eq_true rfl) hc ?_
  refine xv_catch (name := "java/lang/IndexOutOfBoundsException") [] [] rfl (fun z hz => by cases hz) ⟨by decide, by decide⟩ (by decide) (List.mem_of_getElem? (i := 700) (by decide +kernel)) (List.mem_of_getElem? (i := 734) (by decide +kernel)) (fun q => ?_)
  refine ev_ast3 13 dL_lackingRules_12 rfl (by decide) rfl ?_
  refine tj_iconst 14 dL_lackingRules_13 rfl ?_
  exact ev_ireturn ⟨rfl, _, _, _, hT, rfl, rfl, rfl⟩ rfl dL_lackingRules_14
abbrev M_L_lift : Mt := (yL_lift, cL_lift, 4, (Option.some Jvm.ClassFile.FieldType.int), [(0, 16, 19, 24)])
set_option maxRecDepth 100000 in
set_option maxHeartbeats 4000000 in
theorem w_lift_ok {g : Gt} {α : AL} {ν : Nat → Nat → Bool} {X : XM} {h : AH} (hT : TR g α ν X h) {p0 : Int} {q : Bool} {P : AL → (Nat → Nat → Bool) → XM → Prop} {mc ms : Nat} (hA : ∀ a n x, P a n x → a 90 0 = α 90 0) (hc : Al g M_X11_lift 28 [.ref (α 0 0), .int (J p0)] h mc ms (some (.int (J (bi q)))) P) : Al g M_L_lift 29 [.ref (α 0 0), .int (J p0), .ref (α 90 0)] h mc ms (some (.int (J 0))) (fun a n x => ∃ x0, P a n x0 ∧ x = xs x0 90 0 0 (bi q)) := by
  refine ct_of_evH rfl rfl (ls := [some (.ref (α 0 0)), some (.int (J p0)), some (.ref (α 90 0)), none]) rfl (Nat.le_of_ble_eq_true rfl) ?_
  show Ev g M_L_lift 29 0 [some (.ref (α 0 0)), some (.int (J p0)), some (.ref (α 90 0)), none] [] h (mc + 0) (ms + 0) (fun r h' => r = .inl (some (.int (J 0))) ∧ ∃ α' ν' X', TR g α' ν' X' h' ∧ ∃ x0, P α' ν' x0 ∧ X' = xs x0 90 0 0 (bi q))
  refine ev_ald2 1 dL_lift_0 rfl ?_
  refine tj_iconst 2 dL_lift_1 rfl ?_
  refine ev_ald0 3 dL_lift_2 rfl ?_
  refine ev_ild1 4 dL_lift_3 rfl ?_
  refine ta_V1 7 13 dL_lift_4 lkv_L_63 (tr0 hT) rfl rfl (by decide) (Nat.le_of_ble_eq_true rfl) hc (fun h α' ν' X1 hT hP => ?_)
  rw [← hA _ _ _ hP]
  cases q with
  | false =>
    refine tb_if_eq 14 10 dL_lift_7 (by decide) rfl (fun c0 => ?_) (fun c0 => ?_)
    · skip
      refine ev_lconst (Int64.ofInt (bi false)) 15 dL_lift_14 (by decide) rfl ?_
      refine tv_last 16 hT rfl (bi_R false) dL_lift_15 rfl (fun h hT => ?_)
      refine ev_goto 22 dL_lift_16 (by decide) ?_
      refine tj_iconst 23 dL_lift_22 rfl ?_
      exact ev_ireturn ⟨rfl, _, _, _, hT, _, hP, rfl⟩ rfl dL_lift_23
    · cases c0
  | true =>
    refine tb_if_eq 14 10 dL_lift_7 (by decide) rfl (fun c0 => ?_) (fun c0 => ?_)
    · cases c0
    · skip
      refine ev_lconst (Int64.ofInt (bi true)) 11 dL_lift_10 (by decide) rfl ?_
      refine ev_goto 15 dL_lift_11 (by decide) ?_
      refine tv_last 16 hT rfl (bi_R true) dL_lift_15 rfl (fun h hT => ?_)
      refine ev_goto 22 dL_lift_16 (by decide) ?_
      refine tj_iconst 23 dL_lift_22 rfl ?_
      exact ev_ireturn ⟨rfl, _, _, _, hT, _, hP, rfl⟩ rfl dL_lift_23
set_option maxRecDepth 100000 in
set_option maxHeartbeats 4000000 in
theorem w_lift_x1 {g : Gt} {α : AL} {ν : Nat → Nat → Bool} {X : XM} {h : AH} (hT : TR g α ν X h) {p0 : Int} (hc : Th g M_X11_lift 28 [.ref (α 0 0), .int (J p0)] h "java/lang/IndexOutOfBoundsException") : Al g M_L_lift 29 [.ref (α 0 0), .int (J p0), .ref (α 90 0)] h 1 6 (some (.int (J 1))) (fun a n x => a = α ∧ n = ν ∧ x = X) := by
  refine ct_of_evH rfl rfl (ls := [some (.ref (α 0 0)), some (.int (J p0)), some (.ref (α 90 0)), none]) rfl (Nat.le_of_ble_eq_true rfl) ?_
  show Ev g M_L_lift 29 0 [some (.ref (α 0 0)), some (.int (J p0)), some (.ref (α 90 0)), none] [] h (1 + 0) (6 + 0) (fun r h' => r = .inl (some (.int (J 1))) ∧ ∃ α' ν' X', TR g α' ν' X' h' ∧ (α' = α ∧ ν' = ν ∧ X' = X))
  refine ev_ald2 1 dL_lift_0 rfl ?_
  refine tj_iconst 2 dL_lift_1 rfl ?_
  refine ev_ald0 3 dL_lift_2 rfl ?_
  refine ev_ild1 4 dL_lift_3 rfl ?_
  refine tz_V1 7 13 dL_lift_4 lkv_L_63 (tr0 hT) rfl rfl (by decide) (Nat.le_of_ble_eq_true rfl) hc ?_
  refine xv_catch (name := "java/lang/IndexOutOfBoundsException") [] [] rfl (fun z hz => by cases hz) ⟨by decide, by decide⟩ (by decide) (List.mem_of_getElem? (i := 700) (by decide +kernel)) (List.mem_of_getElem? (i := 734) (by decide +kernel)) (fun q => ?_)
  refine ev_ast3 20 dL_lift_19 rfl (by decide) rfl ?_
  refine tj_iconst 21 dL_lift_20 rfl ?_
  exact ev_ireturn ⟨rfl, _, _, _, hT, rfl, rfl, rfl⟩ rfl dL_lift_21
abbrev M_L_load : Mt := (yL_load, cL_load, 4, (Option.some Jvm.ClassFile.FieldType.int), [(0, 9, 12, 24)])
set_option maxRecDepth 100000 in
set_option maxHeartbeats 4000000 in
theorem w_load_ok {g : Gt} {α : AL} {ν : Nat → Nat → Bool} {X : XM} {h : AH} (hT : TR g α ν X h) {p0 : Int} {z : Int} (hz : R31 z) {P : AL → (Nat → Nat → Bool) → XM → Prop} {mc ms : Nat} (hA : ∀ a n x, P a n x → a 90 0 = α 90 0) (hc : Al g M_X11_load 28 [.ref (α 0 0), .int (J p0)] h mc ms (some (.int (J z))) P) : Al g M_L_load 29 [.ref (α 0 0), .int (J p0), .ref (α 90 0)] h mc ms (some (.int (J 0))) (fun a n x => ∃ x0, P a n x0 ∧ x = xs x0 90 0 0 z) := by
  refine ct_of_evH rfl rfl (ls := [some (.ref (α 0 0)), some (.int (J p0)), some (.ref (α 90 0)), none]) rfl (Nat.le_of_ble_eq_true rfl) ?_
  show Ev g M_L_load 29 0 [some (.ref (α 0 0)), some (.int (J p0)), some (.ref (α 90 0)), none] [] h (mc + 0) (ms + 0) (fun r h' => r = .inl (some (.int (J 0))) ∧ ∃ α' ν' X', TR g α' ν' X' h' ∧ ∃ x0, P α' ν' x0 ∧ X' = xs x0 90 0 0 z)
  refine ev_ald2 1 dL_load_0 rfl ?_
  refine tj_iconst 2 dL_load_1 rfl ?_
  refine ev_ald0 3 dL_load_2 rfl ?_
  refine ev_ild1 4 dL_load_3 rfl ?_
  refine ta_V1 7 13 dL_load_4 lkv_L_111 (tr0 hT) rfl rfl (by decide) (Nat.le_of_ble_eq_true rfl) hc (fun h α' ν' X1 hT hP => ?_)
  rw [← hA _ _ _ hP]
  refine ev_i2l 8 dL_load_7 rfl ?_
  rw [J_i2l _ hz]
  refine tv_last 9 hT rfl hz dL_load_8 rfl (fun h hT => ?_)
  refine ev_goto 15 dL_load_9 (by decide) ?_
  refine tj_iconst 16 dL_load_15 rfl ?_
  exact ev_ireturn ⟨rfl, _, _, _, hT, _, hP, rfl⟩ rfl dL_load_16
set_option maxRecDepth 100000 in
set_option maxHeartbeats 4000000 in
theorem w_load_x1 {g : Gt} {α : AL} {ν : Nat → Nat → Bool} {X : XM} {h : AH} (hT : TR g α ν X h) {p0 : Int} (hc : Th g M_X11_load 28 [.ref (α 0 0), .int (J p0)] h "java/lang/IndexOutOfBoundsException") : Al g M_L_load 29 [.ref (α 0 0), .int (J p0), .ref (α 90 0)] h 1 6 (some (.int (J 1))) (fun a n x => a = α ∧ n = ν ∧ x = X) := by
  refine ct_of_evH rfl rfl (ls := [some (.ref (α 0 0)), some (.int (J p0)), some (.ref (α 90 0)), none]) rfl (Nat.le_of_ble_eq_true rfl) ?_
  show Ev g M_L_load 29 0 [some (.ref (α 0 0)), some (.int (J p0)), some (.ref (α 90 0)), none] [] h (1 + 0) (6 + 0) (fun r h' => r = .inl (some (.int (J 1))) ∧ ∃ α' ν' X', TR g α' ν' X' h' ∧ (α' = α ∧ ν' = ν ∧ X' = X))
  refine ev_ald2 1 dL_load_0 rfl ?_
  refine tj_iconst 2 dL_load_1 rfl ?_
  refine ev_ald0 3 dL_load_2 rfl ?_
  refine ev_ild1 4 dL_load_3 rfl ?_
  refine tz_V1 7 13 dL_load_4 lkv_L_111 (tr0 hT) rfl rfl (by decide) (Nat.le_of_ble_eq_true rfl) hc ?_
  refine xv_catch (name := "java/lang/IndexOutOfBoundsException") [] [] rfl (fun z hz => by cases hz) ⟨by decide, by decide⟩ (by decide) (List.mem_of_getElem? (i := 700) (by decide +kernel)) (List.mem_of_getElem? (i := 734) (by decide +kernel)) (fun q => ?_)
  refine ev_ast3 13 dL_load_12 rfl (by decide) rfl ?_
  refine tj_iconst 14 dL_load_13 rfl ?_
  exact ev_ireturn ⟨rfl, _, _, _, hT, rfl, rfl, rfl⟩ rfl dL_load_14
abbrev M_L_majorOf : Mt := (yL_majorOf, cL_majorOf, 4, (Option.some Jvm.ClassFile.FieldType.int), [(0, 9, 12, 24)])
set_option maxRecDepth 100000 in
set_option maxHeartbeats 4000000 in
theorem w_majorOf_ok {g : Gt} {α : AL} {ν : Nat → Nat → Bool} {X : XM} {h : AH} (hT : TR g α ν X h) {p0 : Int} {z : Int} (hz : R31 z) {P : AL → (Nat → Nat → Bool) → XM → Prop} {mc ms : Nat} (hA : ∀ a n x, P a n x → a 90 0 = α 90 0) (hc : Al g M_X11_majorOf 28 [.ref (α 0 0), .int (J p0)] h mc ms (some (.int (J z))) P) : Al g M_L_majorOf 29 [.ref (α 0 0), .int (J p0), .ref (α 90 0)] h mc ms (some (.int (J 0))) (fun a n x => ∃ x0, P a n x0 ∧ x = xs x0 90 0 0 z) := by
  refine ct_of_evH rfl rfl (ls := [some (.ref (α 0 0)), some (.int (J p0)), some (.ref (α 90 0)), none]) rfl (Nat.le_of_ble_eq_true rfl) ?_
  show Ev g M_L_majorOf 29 0 [some (.ref (α 0 0)), some (.int (J p0)), some (.ref (α 90 0)), none] [] h (mc + 0) (ms + 0) (fun r h' => r = .inl (some (.int (J 0))) ∧ ∃ α' ν' X', TR g α' ν' X' h' ∧ ∃ x0, P α' ν' x0 ∧ X' = xs x0 90 0 0 z)
  refine ev_ald2 1 dL_majorOf_0 rfl ?_
  refine tj_iconst 2 dL_majorOf_1 rfl ?_
  refine ev_ald0 3 dL_majorOf_2 rfl ?_
  refine ev_ild1 4 dL_majorOf_3 rfl ?_
  refine ta_V1 7 13 dL_majorOf_4 lkv_L_26 (tr0 hT) rfl rfl (by decide) (Nat.le_of_ble_eq_true rfl) hc (fun h α' ν' X1 hT hP => ?_)
  rw [← hA _ _ _ hP]
  refine ev_i2l 8 dL_majorOf_7 rfl ?_
  rw [J_i2l _ hz]
  refine tv_last 9 hT rfl hz dL_majorOf_8 rfl (fun h hT => ?_)
  refine ev_goto 15 dL_majorOf_9 (by decide) ?_
  refine tj_iconst 16 dL_majorOf_15 rfl ?_
  exact ev_ireturn ⟨rfl, _, _, _, hT, _, hP, rfl⟩ rfl dL_majorOf_16
set_option maxRecDepth 100000 in
set_option maxHeartbeats 4000000 in
theorem w_majorOf_x1 {g : Gt} {α : AL} {ν : Nat → Nat → Bool} {X : XM} {h : AH} (hT : TR g α ν X h) {p0 : Int} (hc : Th g M_X11_majorOf 28 [.ref (α 0 0), .int (J p0)] h "java/lang/IndexOutOfBoundsException") : Al g M_L_majorOf 29 [.ref (α 0 0), .int (J p0), .ref (α 90 0)] h 1 6 (some (.int (J 1))) (fun a n x => a = α ∧ n = ν ∧ x = X) := by
  refine ct_of_evH rfl rfl (ls := [some (.ref (α 0 0)), some (.int (J p0)), some (.ref (α 90 0)), none]) rfl (Nat.le_of_ble_eq_true rfl) ?_
  show Ev g M_L_majorOf 29 0 [some (.ref (α 0 0)), some (.int (J p0)), some (.ref (α 90 0)), none] [] h (1 + 0) (6 + 0) (fun r h' => r = .inl (some (.int (J 1))) ∧ ∃ α' ν' X', TR g α' ν' X' h' ∧ (α' = α ∧ ν' = ν ∧ X' = X))
  refine ev_ald2 1 dL_majorOf_0 rfl ?_
  refine tj_iconst 2 dL_majorOf_1 rfl ?_
  refine ev_ald0 3 dL_majorOf_2 rfl ?_
  refine ev_ild1 4 dL_majorOf_3 rfl ?_
  refine tz_V1 7 13 dL_majorOf_4 lkv_L_26 (tr0 hT) rfl rfl (by decide) (Nat.le_of_ble_eq_true rfl) hc ?_
  refine xv_catch (name := "java/lang/IndexOutOfBoundsException") [] [] rfl (fun z hz => by cases hz) ⟨by decide, by decide⟩ (by decide) (List.mem_of_getElem? (i := 700) (by decide +kernel)) (List.mem_of_getElem? (i := 734) (by decide +kernel)) (fun q => ?_)
  refine ev_ast3 13 dL_majorOf_12 rfl (by decide) rfl ?_
  refine tj_iconst 14 dL_majorOf_13 rfl ?_
  exact ev_ireturn ⟨rfl, _, _, _, hT, rfl, rfl, rfl⟩ rfl dL_majorOf_14
abbrev M_L_mark : Mt := (yL_mark, cL_mark, 6, (Option.some Jvm.ClassFile.FieldType.int), [(0, 19, 22, 24), (0, 19, 26, 45), (0, 19, 30, 13), (0, 19, 34, 15)])
set_option maxRecDepth 100000 in
set_option maxHeartbeats 4000000 in
theorem w_mark_ok {g : Gt} {α : AL} {ν : Nat → Nat → Bool} {X : XM} {h : AH} (hT : TR g α ν X h) {p0 p1 p2 : Int} {q : Bool} {P : AL → (Nat → Nat → Bool) → XM → Prop} {mc ms : Nat} (hA : ∀ a n x, P a n x → a 90 0 = α 90 0) (hc : Al g M_X11_mark 28 [.ref (α 0 0), .int (J p0), .int (J p1), .int (J p2)] h mc ms (some (.int (J (bi q)))) P) : Al g M_L_mark 29 [.ref (α 0 0), .int (J p0), .int (J p1), .int (J p2), .ref (α 90 0)] h mc ms (some (.int (J 0))) (fun a n x => ∃ x0, P a n x0 ∧ x = xs x0 90 0 0 (bi q)) := by
  refine ct_of_evH rfl rfl (ls := [some (.ref (α 0 0)), some (.int (J p0)), some (.int (J p1)), some (.int (J p2)), some (.ref (α 90 0)), none]) rfl (Nat.le_of_ble_eq_true rfl) ?_
  show Ev g M_L_mark 29 0 [some (.ref (α 0 0)), some (.int (J p0)), some (.int (J p1)), some (.int (J p2)), some (.ref (α 90 0)), none] [] h (mc + 0) (ms + 0) (fun r h' => r = .inl (some (.int (J 0))) ∧ ∃ α' ν' X', TR g α' ν' X' h' ∧ ∃ x0, P α' ν' x0 ∧ X' = xs x0 90 0 0 (bi q))
  refine ev_ald4 2 dL_mark_0 rfl ?_
  refine tj_iconst 3 dL_mark_2 rfl ?_
  refine ev_ald0 4 dL_mark_3 rfl ?_
  refine ev_ild1 5 dL_mark_4 rfl ?_
  refine ev_ild2 6 dL_mark_5 rfl ?_
  refine ev_ild3 7 dL_mark_6 rfl ?_
  refine ta_V3 10 13 dL_mark_7 lkv_L_87 (tr0 hT) rfl rfl (by decide) (Nat.le_of_ble_eq_true rfl) hc (fun h α' ν' X1 hT hP => ?_)
  rw [← hA _ _ _ hP]
  cases q with
  | false =>
    refine tb_if_eq 17 13 dL_mark_10 (by decide) rfl (fun c0 => ?_) (fun c0 => ?_)
    · skip
      refine ev_lconst (Int64.ofInt (bi false)) 18 dL_mark_17 (by decide) rfl ?_
      refine tv_last 19 hT rfl (bi_R false) dL_mark_18 rfl (fun h hT => ?_)
      refine ev_goto 38 dL_mark_19 (by decide) ?_
      refine tj_iconst 39 dL_mark_38 rfl ?_
      exact ev_ireturn ⟨rfl, _, _, _, hT, _, hP, rfl⟩ rfl dL_mark_39
    · cases c0
  | true =>
    refine tb_if_eq 17 13 dL_mark_10 (by decide) rfl (fun c0 => ?_) (fun c0 => ?_)
    · cases c0
    · skip
      refine ev_lconst (Int64.ofInt (bi true)) 14 dL_mark_13 (by decide) rfl ?_
      refine ev_goto 18 dL_mark_14 (by decide) ?_
      refine tv_last 19 hT rfl (bi_R true) dL_mark_18 rfl (fun h hT => ?_)
      refine ev_goto 38 dL_mark_19 (by decide) ?_
      refine tj_iconst 39 dL_mark_38 rfl ?_
      exact ev_ireturn ⟨rfl, _, _, _, hT, _, hP, rfl⟩ rfl dL_mark_39
set_option maxRecDepth 100000 in
set_option maxHeartbeats 4000000 in
theorem w_mark_x1 {g : Gt} {α : AL} {ν : Nat → Nat → Bool} {X : XM} {h : AH} (hT : TR g α ν X h) {p0 p1 p2 : Int} (hc : Th g M_X11_mark 28 [.ref (α 0 0), .int (J p0), .int (J p1), .int (J p2)] h "java/lang/IndexOutOfBoundsException") : Al g M_L_mark 29 [.ref (α 0 0), .int (J p0), .int (J p1), .int (J p2), .ref (α 90 0)] h 1 6 (some (.int (J 1))) (fun a n x => a = α ∧ n = ν ∧ x = X) := by
  refine ct_of_evH rfl rfl (ls := [some (.ref (α 0 0)), some (.int (J p0)), some (.int (J p1)), some (.int (J p2)), some (.ref (α 90 0)), none]) rfl (Nat.le_of_ble_eq_true rfl) ?_
  show Ev g M_L_mark 29 0 [some (.ref (α 0 0)), some (.int (J p0)), some (.int (J p1)), some (.int (J p2)), some (.ref (α 90 0)), none] [] h (1 + 0) (6 + 0) (fun r h' => r = .inl (some (.int (J 1))) ∧ ∃ α' ν' X', TR g α' ν' X' h' ∧ (α' = α ∧ ν' = ν ∧ X' = X))
  refine ev_ald4 2 dL_mark_0 rfl ?_
  refine tj_iconst 3 dL_mark_2 rfl ?_
  refine ev_ald0 4 dL_mark_3 rfl ?_
  refine ev_ild1 5 dL_mark_4 rfl ?_
  refine ev_ild2 6 dL_mark_5 rfl ?_
  refine ev_ild3 7 dL_mark_6 rfl ?_
  refine tz_V3 10 13 dL_mark_7 lkv_L_87 (tr0 hT) rfl rfl (by decide) (Nat.le_of_ble_eq_true rfl) hc ?_
  refine xv_catch (name := "java/lang/IndexOutOfBoundsException") [] [(0, 19, 26, 45), (0, 19, 30, 13), (0, 19, 34, 15)] rfl (fun z hz => by cases hz) ⟨by decide, by decide⟩ (by decide) (List.mem_of_getElem? (i := 700) (by decide +kernel)) (List.mem_of_getElem? (i := 734) (by decide +kernel)) (fun q => ?_)
  refine ev_ast5 24 dL_mark_22 rfl (by decide) rfl ?_
  refine tj_iconst 25 dL_mark_24 rfl ?_
  exact ev_ireturn ⟨rfl, _, _, _, hT, rfl, rfl, rfl⟩ rfl dL_mark_25
set_option maxRecDepth 100000 in
set_option maxHeartbeats 4000000 in
theorem w_mark_x2 {g : Gt} {α : AL} {ν : Nat → Nat → Bool} {X : XM} {h : AH} (hT : TR g α ν X h) {p0 p1 p2 : Int} (hc : Th g M_X11_mark 28 [.ref (α 0 0), .int (J p0), .int (J p1), .int (J p2)] h "java/util/NoSuchElementException") : Al g M_L_mark 29 [.ref (α 0 0), .int (J p0), .int (J p1), .int (J p2), .ref (α 90 0)] h 1 6 (some (.int (J 2))) (fun a n x => a = α ∧ n = ν ∧ x = X) := by
  refine ct_of_evH rfl rfl (ls := [some (.ref (α 0 0)), some (.int (J p0)), some (.int (J p1)), some (.int (J p2)), some (.ref (α 90 0)), none]) rfl (Nat.le_of_ble_eq_true rfl) ?_
  show Ev g M_L_mark 29 0 [some (.ref (α 0 0)), some (.int (J p0)), some (.int (J p1)), some (.int (J p2)), some (.ref (α 90 0)), none] [] h (1 + 0) (6 + 0) (fun r h' => r = .inl (some (.int (J 2))) ∧ ∃ α' ν' X', TR g α' ν' X' h' ∧ (α' = α ∧ ν' = ν ∧ X' = X))
  refine ev_ald4 2 dL_mark_0 rfl ?_
  refine tj_iconst 3 dL_mark_2 rfl ?_
  refine ev_ald0 4 dL_mark_3 rfl ?_
  refine ev_ild1 5 dL_mark_4 rfl ?_
  refine ev_ild2 6 dL_mark_5 rfl ?_
  refine ev_ild3 7 dL_mark_6 rfl ?_
  refine tz_V3 10 13 dL_mark_7 lkv_L_87 (tr0 hT) rfl rfl (by decide) (Nat.le_of_ble_eq_true rfl) hc ?_
  refine xv_catch (name := "java/util/NoSuchElementException") [(0, 19, 22, 24)] [(0, 19, 30, 13), (0, 19, 34, 15)] rfl (fun z hz => by rcases (by simpa using hz : z = (0, 19, 22, 24)) with rfl <;> first | exact ⟨by decide, "java/lang/IndexOutOfBoundsException", List.mem_of_getElem? (i := 700) (by decide +kernel), by decide +kernel⟩) ⟨by decide, by decide⟩ (by decide) (List.mem_of_getElem? (i := 867) (by decide +kernel)) (List.mem_of_getElem? (i := 878) (by decide +kernel)) (fun q => ?_)
  refine ev_ast5 28 dL_mark_26 rfl (by decide) rfl ?_
  refine tj_iconst 29 dL_mark_28 rfl ?_
  exact ev_ireturn ⟨rfl, _, _, _, hT, rfl, rfl, rfl⟩ rfl dL_mark_29
set_option maxRecDepth 100000 in
set_option maxHeartbeats 4000000 in
theorem w_mark_x3 {g : Gt} {α : AL} {ν : Nat → Nat → Bool} {X : XM} {h : AH} (hT : TR g α ν X h) {p0 p1 p2 : Int} (hc : Th g M_X11_mark 28 [.ref (α 0 0), .int (J p0), .int (J p1), .int (J p2)] h "java/lang/IllegalArgumentException") : Al g M_L_mark 29 [.ref (α 0 0), .int (J p0), .int (J p1), .int (J p2), .ref (α 90 0)] h 1 6 (some (.int (J 3))) (fun a n x => a = α ∧ n = ν ∧ x = X) := by
  refine ct_of_evH rfl rfl (ls := [some (.ref (α 0 0)), some (.int (J p0)), some (.int (J p1)), some (.int (J p2)), some (.ref (α 90 0)), none]) rfl (Nat.le_of_ble_eq_true rfl) ?_
  show Ev g M_L_mark 29 0 [some (.ref (α 0 0)), some (.int (J p0)), some (.int (J p1)), some (.int (J p2)), some (.ref (α 90 0)), none] [] h (1 + 0) (6 + 0) (fun r h' => r = .inl (some (.int (J 3))) ∧ ∃ α' ν' X', TR g α' ν' X' h' ∧ (α' = α ∧ ν' = ν ∧ X' = X))
  refine ev_ald4 2 dL_mark_0 rfl ?_
  refine tj_iconst 3 dL_mark_2 rfl ?_
  refine ev_ald0 4 dL_mark_3 rfl ?_
  refine ev_ild1 5 dL_mark_4 rfl ?_
  refine ev_ild2 6 dL_mark_5 rfl ?_
  refine ev_ild3 7 dL_mark_6 rfl ?_
  refine tz_V3 10 13 dL_mark_7 lkv_L_87 (tr0 hT) rfl rfl (by decide) (Nat.le_of_ble_eq_true rfl) hc ?_
  refine xv_catch (name := "java/lang/IllegalArgumentException") [(0, 19, 22, 24), (0, 19, 26, 45)] [(0, 19, 34, 15)] rfl (fun z hz => by rcases (by simpa using hz : z = (0, 19, 22, 24) ∨ z = (0, 19, 26, 45)) with rfl | rfl <;> first | exact ⟨by decide, "java/lang/IndexOutOfBoundsException", List.mem_of_getElem? (i := 700) (by decide +kernel), by decide +kernel⟩ | exact ⟨by decide, "java/util/NoSuchElementException", List.mem_of_getElem? (i := 867) (by decide +kernel), by decide +kernel⟩) ⟨by decide, by decide⟩ (by decide) (List.mem_of_getElem? (i := 493) (by decide +kernel)) (List.mem_of_getElem? (i := 504) (by decide +kernel)) (fun q => ?_)
  refine ev_ast5 32 dL_mark_30 rfl (by decide) rfl ?_
  refine tj_iconst 33 dL_mark_32 rfl ?_
  exact ev_ireturn ⟨rfl, _, _, _, hT, rfl, rfl, rfl⟩ rfl dL_mark_33
set_option maxRecDepth 100000 in
set_option maxHeartbeats 4000000 in
theorem w_mark_x4 {g : Gt} {α : AL} {ν : Nat → Nat → Bool} {X : XM} {h : AH} (hT : TR g α ν X h) {p0 p1 p2 : Int} (hc : Th g M_X11_mark 28 [.ref (α 0 0), .int (J p0), .int (J p1), .int (J p2)] h "java/lang/IllegalStateException") : Al g M_L_mark 29 [.ref (α 0 0), .int (J p0), .int (J p1), .int (J p2), .ref (α 90 0)] h 1 6 (some (.int (J 4))) (fun a n x => a = α ∧ n = ν ∧ x = X) := by
  refine ct_of_evH rfl rfl (ls := [some (.ref (α 0 0)), some (.int (J p0)), some (.int (J p1)), some (.int (J p2)), some (.ref (α 90 0)), none]) rfl (Nat.le_of_ble_eq_true rfl) ?_
  show Ev g M_L_mark 29 0 [some (.ref (α 0 0)), some (.int (J p0)), some (.int (J p1)), some (.int (J p2)), some (.ref (α 90 0)), none] [] h (1 + 0) (6 + 0) (fun r h' => r = .inl (some (.int (J 4))) ∧ ∃ α' ν' X', TR g α' ν' X' h' ∧ (α' = α ∧ ν' = ν ∧ X' = X))
  refine ev_ald4 2 dL_mark_0 rfl ?_
  refine tj_iconst 3 dL_mark_2 rfl ?_
  refine ev_ald0 4 dL_mark_3 rfl ?_
  refine ev_ild1 5 dL_mark_4 rfl ?_
  refine ev_ild2 6 dL_mark_5 rfl ?_
  refine ev_ild3 7 dL_mark_6 rfl ?_
  refine tz_V3 10 13 dL_mark_7 lkv_L_87 (tr0 hT) rfl rfl (by decide) (Nat.le_of_ble_eq_true rfl) hc ?_
  refine xv_catch (name := "java/lang/IllegalStateException") [(0, 19, 22, 24), (0, 19, 26, 45), (0, 19, 30, 13)] [] rfl (fun z hz => by rcases (by simpa using hz : z = (0, 19, 22, 24) ∨ z = (0, 19, 26, 45) ∨ z = (0, 19, 30, 13)) with rfl | rfl | rfl <;> first | exact ⟨by decide, "java/lang/IndexOutOfBoundsException", List.mem_of_getElem? (i := 700) (by decide +kernel), by decide +kernel⟩ | exact ⟨by decide, "java/util/NoSuchElementException", List.mem_of_getElem? (i := 867) (by decide +kernel), by decide +kernel⟩ | exact ⟨by decide, "java/lang/IllegalArgumentException", List.mem_of_getElem? (i := 493) (by decide +kernel), by decide +kernel⟩) ⟨by decide, by decide⟩ (by decide) (List.mem_of_getElem? (i := 494) (by decide +kernel)) (List.mem_of_getElem? (i := 576) (by decide +kernel)) (fun q => ?_)
  refine ev_ast5 36 dL_mark_34 rfl (by decide) rfl ?_
  refine tj_iconst 37 dL_mark_36 rfl ?_
  exact ev_ireturn ⟨rfl, _, _, _, hT, rfl, rfl, rfl⟩ rfl dL_mark_37
abbrev M_L_markFormula : Mt := (yL_markFormula, cL_markFormula, 5, (Option.some Jvm.ClassFile.FieldType.int), [(0, 10, 13, 24), (0, 10, 17, 13), (0, 10, 21, 15)])
set_option maxRecDepth 100000 in
set_option maxHeartbeats 4000000 in
theorem w_markFormula_ok {g : Gt} {α : AL} {ν : Nat → Nat → Bool} {X : XM} {h : AH} (hT : TR g α ν X h) {p0 p1 : Int} {z : Int} (hz : R31 z) {P : AL → (Nat → Nat → Bool) → XM → Prop} {mc ms : Nat} (hA : ∀ a n x, P a n x → a 90 0 = α 90 0) (hc : Al g M_X11_markFormula 28 [.ref (α 0 0), .int (J p0), .int (J p1)] h mc ms (some (.int (J z))) P) : Al g M_L_markFormula 29 [.ref (α 0 0), .int (J p0), .int (J p1), .ref (α 90 0)] h mc ms (some (.int (J 0))) (fun a n x => ∃ x0, P a n x0 ∧ x = xs x0 90 0 0 z) := by
  refine ct_of_evH rfl rfl (ls := [some (.ref (α 0 0)), some (.int (J p0)), some (.int (J p1)), some (.ref (α 90 0)), none]) rfl (Nat.le_of_ble_eq_true rfl) ?_
  show Ev g M_L_markFormula 29 0 [some (.ref (α 0 0)), some (.int (J p0)), some (.int (J p1)), some (.ref (α 90 0)), none] [] h (mc + 0) (ms + 0) (fun r h' => r = .inl (some (.int (J 0))) ∧ ∃ α' ν' X', TR g α' ν' X' h' ∧ ∃ x0, P α' ν' x0 ∧ X' = xs x0 90 0 0 z)
  refine ev_ald3 1 dL_markFormula_0 rfl ?_
  refine tj_iconst 2 dL_markFormula_1 rfl ?_
  refine ev_ald0 3 dL_markFormula_2 rfl ?_
  refine ev_ild1 4 dL_markFormula_3 rfl ?_
  refine ev_ild2 5 dL_markFormula_4 rfl ?_
  refine ta_V2 8 13 dL_markFormula_5 lkv_L_33 (tr0 hT) rfl rfl (by decide) (Nat.le_of_ble_eq_true rfl) hc (fun h α' ν' X1 hT hP => ?_)
  rw [← hA _ _ _ hP]
  refine ev_i2l 9 dL_markFormula_8 rfl ?_
  rw [J_i2l _ hz]
  refine tv_last 10 hT rfl hz dL_markFormula_9 rfl (fun h hT => ?_)
  refine ev_goto 25 dL_markFormula_10 (by decide) ?_
  refine tj_iconst 26 dL_markFormula_25 rfl ?_
  exact ev_ireturn ⟨rfl, _, _, _, hT, _, hP, rfl⟩ rfl dL_markFormula_26
set_option maxRecDepth 100000 in
set_option maxHeartbeats 4000000 in
theorem w_markFormula_x1 {g : Gt} {α : AL} {ν : Nat → Nat → Bool} {X : XM} {h : AH} (hT : TR g α ν X h) {p0 p1 : Int} (hc : Th g M_X11_markFormula 28 [.ref (α 0 0), .int (J p0), .int (J p1)] h "java/lang/IndexOutOfBoundsException") : Al g M_L_markFormula 29 [.ref (α 0 0), .int (J p0), .int (J p1), .ref (α 90 0)] h 1 6 (some (.int (J 1))) (fun a n x => a = α ∧ n = ν ∧ x = X) := by
  refine ct_of_evH rfl rfl (ls := [some (.ref (α 0 0)), some (.int (J p0)), some (.int (J p1)), some (.ref (α 90 0)), none]) rfl (Nat.le_of_ble_eq_true rfl) ?_
  show Ev g M_L_markFormula 29 0 [some (.ref (α 0 0)), some (.int (J p0)), some (.int (J p1)), some (.ref (α 90 0)), none] [] h (1 + 0) (6 + 0) (fun r h' => r = .inl (some (.int (J 1))) ∧ ∃ α' ν' X', TR g α' ν' X' h' ∧ (α' = α ∧ ν' = ν ∧ X' = X))
  refine ev_ald3 1 dL_markFormula_0 rfl ?_
  refine tj_iconst 2 dL_markFormula_1 rfl ?_
  refine ev_ald0 3 dL_markFormula_2 rfl ?_
  refine ev_ild1 4 dL_markFormula_3 rfl ?_
  refine ev_ild2 5 dL_markFormula_4 rfl ?_
  refine tz_V2 8 13 dL_markFormula_5 lkv_L_33 (tr0 hT) rfl rfl (by decide) (Nat.le_of_ble_eq_true rfl) hc ?_
  refine xv_catch (name := "java/lang/IndexOutOfBoundsException") [] [(0, 10, 17, 13), (0, 10, 21, 15)] rfl (fun z hz => by cases hz) ⟨by decide, by decide⟩ (by decide) (List.mem_of_getElem? (i := 700) (by decide +kernel)) (List.mem_of_getElem? (i := 734) (by decide +kernel)) (fun q => ?_)
  refine ev_ast4 15 dL_markFormula_13 rfl (by decide) rfl ?_
  refine tj_iconst 16 dL_markFormula_15 rfl ?_
  exact ev_ireturn ⟨rfl, _, _, _, hT, rfl, rfl, rfl⟩ rfl dL_markFormula_16
set_option maxRecDepth 100000 in
set_option maxHeartbeats 4000000 in
theorem w_markFormula_x2 {g : Gt} {α : AL} {ν : Nat → Nat → Bool} {X : XM} {h : AH} (hT : TR g α ν X h) {p0 p1 : Int} (hc : Th g M_X11_markFormula 28 [.ref (α 0 0), .int (J p0), .int (J p1)] h "java/lang/IllegalArgumentException") : Al g M_L_markFormula 29 [.ref (α 0 0), .int (J p0), .int (J p1), .ref (α 90 0)] h 1 6 (some (.int (J 2))) (fun a n x => a = α ∧ n = ν ∧ x = X) := by
  refine ct_of_evH rfl rfl (ls := [some (.ref (α 0 0)), some (.int (J p0)), some (.int (J p1)), some (.ref (α 90 0)), none]) rfl (Nat.le_of_ble_eq_true rfl) ?_
  show Ev g M_L_markFormula 29 0 [some (.ref (α 0 0)), some (.int (J p0)), some (.int (J p1)), some (.ref (α 90 0)), none] [] h (1 + 0) (6 + 0) (fun r h' => r = .inl (some (.int (J 2))) ∧ ∃ α' ν' X', TR g α' ν' X' h' ∧ (α' = α ∧ ν' = ν ∧ X' = X))
  refine ev_ald3 1 dL_markFormula_0 rfl ?_
  refine tj_iconst 2 dL_markFormula_1 rfl ?_
  refine ev_ald0 3 dL_markFormula_2 rfl ?_
  refine ev_ild1 4 dL_markFormula_3 rfl ?_
  refine ev_ild2 5 dL_markFormula_4 rfl ?_
  refine tz_V2 8 13 dL_markFormula_5 lkv_L_33 (tr0 hT) rfl rfl (by decide) (Nat.le_of_ble_eq_true rfl) hc ?_
  refine xv_catch (name := "java/lang/IllegalArgumentException") [(0, 10, 13, 24)] [(0, 10, 21, 15)] rfl (fun z hz => by rcases (by simpa using hz : z = (0, 10, 13, 24)) with rfl <;> first | exact ⟨by decide, "java/lang/IndexOutOfBoundsException", List.mem_of_getElem? (i := 700) (by decide +kernel), by decide +kernel⟩) ⟨by decide, by decide⟩ (by decide) (List.mem_of_getElem? (i := 493) (by decide +kernel)) (List.mem_of_getElem? (i := 504) (by decide +kernel)) (fun q => ?_)
  refine ev_ast4 19 dL_markFormula_17 rfl (by decide) rfl ?_
  refine tj_iconst 20 dL_markFormula_19 rfl ?_
  exact ev_ireturn ⟨rfl, _, _, _, hT, rfl, rfl, rfl⟩ rfl dL_markFormula_20
set_option maxRecDepth 100000 in
set_option maxHeartbeats 4000000 in
theorem w_markFormula_x3 {g : Gt} {α : AL} {ν : Nat → Nat → Bool} {X : XM} {h : AH} (hT : TR g α ν X h) {p0 p1 : Int} (hc : Th g M_X11_markFormula 28 [.ref (α 0 0), .int (J p0), .int (J p1)] h "java/lang/IllegalStateException") : Al g M_L_markFormula 29 [.ref (α 0 0), .int (J p0), .int (J p1), .ref (α 90 0)] h 1 6 (some (.int (J 3))) (fun a n x => a = α ∧ n = ν ∧ x = X) := by
  refine ct_of_evH rfl rfl (ls := [some (.ref (α 0 0)), some (.int (J p0)), some (.int (J p1)), some (.ref (α 90 0)), none]) rfl (Nat.le_of_ble_eq_true rfl) ?_
  show Ev g M_L_markFormula 29 0 [some (.ref (α 0 0)), some (.int (J p0)), some (.int (J p1)), some (.ref (α 90 0)), none] [] h (1 + 0) (6 + 0) (fun r h' => r = .inl (some (.int (J 3))) ∧ ∃ α' ν' X', TR g α' ν' X' h' ∧ (α' = α ∧ ν' = ν ∧ X' = X))
  refine ev_ald3 1 dL_markFormula_0 rfl ?_
  refine tj_iconst 2 dL_markFormula_1 rfl ?_
  refine ev_ald0 3 dL_markFormula_2 rfl ?_
  refine ev_ild1 4 dL_markFormula_3 rfl ?_
  refine ev_ild2 5 dL_markFormula_4 rfl ?_
  refine tz_V2 8 13 dL_markFormula_5 lkv_L_33 (tr0 hT) rfl rfl (by decide) (Nat.le_of_ble_eq_true rfl) hc ?_
  refine xv_catch (name := "java/lang/IllegalStateException") [(0, 10, 13, 24), (0, 10, 17, 13)] [] rfl (fun z hz => by rcases (by simpa using hz : z = (0, 10, 13, 24) ∨ z = (0, 10, 17, 13)) with rfl | rfl <;> first | exact ⟨by decide, "java/lang/IndexOutOfBoundsException", List.mem_of_getElem? (i := 700) (by decide +kernel), by decide +kernel⟩ | exact ⟨by decide, "java/lang/IllegalArgumentException", List.mem_of_getElem? (i := 493) (by decide +kernel), by decide +kernel⟩) ⟨by decide, by decide⟩ (by decide) (List.mem_of_getElem? (i := 494) (by decide +kernel)) (List.mem_of_getElem? (i := 576) (by decide +kernel)) (fun q => ?_)
  refine ev_ast4 23 dL_markFormula_21 rfl (by decide) rfl ?_
  refine tj_iconst 24 dL_markFormula_23 rfl ?_
  exact ev_ireturn ⟨rfl, _, _, _, hT, rfl, rfl, rfl⟩ rfl dL_markFormula_24
abbrev M_L_mostMet : Mt := (yL_mostMet, cL_mostMet, 4, (Option.some Jvm.ClassFile.FieldType.int), [(0, 9, 12, 24)])
set_option maxRecDepth 100000 in
set_option maxHeartbeats 4000000 in
theorem w_mostMet_ok {g : Gt} {α : AL} {ν : Nat → Nat → Bool} {X : XM} {h : AH} (hT : TR g α ν X h) {p0 : Int} {z : Int} (hz : R31 z) {P : AL → (Nat → Nat → Bool) → XM → Prop} {mc ms : Nat} (hA : ∀ a n x, P a n x → a 90 0 = α 90 0) (hc : Al g M_X11_mostMet 28 [.ref (α 0 0), .int (J p0)] h mc ms (some (.int (J z))) P) : Al g M_L_mostMet 29 [.ref (α 0 0), .int (J p0), .ref (α 90 0)] h mc ms (some (.int (J 0))) (fun a n x => ∃ x0, P a n x0 ∧ x = xs x0 90 0 0 z) := by
  refine ct_of_evH rfl rfl (ls := [some (.ref (α 0 0)), some (.int (J p0)), some (.ref (α 90 0)), none]) rfl (Nat.le_of_ble_eq_true rfl) ?_
  show Ev g M_L_mostMet 29 0 [some (.ref (α 0 0)), some (.int (J p0)), some (.ref (α 90 0)), none] [] h (mc + 0) (ms + 0) (fun r h' => r = .inl (some (.int (J 0))) ∧ ∃ α' ν' X', TR g α' ν' X' h' ∧ ∃ x0, P α' ν' x0 ∧ X' = xs x0 90 0 0 z)
  refine ev_ald2 1 dL_mostMet_0 rfl ?_
  refine tj_iconst 2 dL_mostMet_1 rfl ?_
  refine ev_ald0 3 dL_mostMet_2 rfl ?_
  refine ev_ild1 4 dL_mostMet_3 rfl ?_
  refine ta_V1 7 13 dL_mostMet_4 lkv_L_154 (tr0 hT) rfl rfl (by decide) (Nat.le_of_ble_eq_true rfl) hc (fun h α' ν' X1 hT hP => ?_)
  rw [← hA _ _ _ hP]
  refine ev_i2l 8 dL_mostMet_7 rfl ?_
  rw [J_i2l _ hz]
  refine tv_last 9 hT rfl hz dL_mostMet_8 rfl (fun h hT => ?_)
  refine ev_goto 15 dL_mostMet_9 (by decide) ?_
  refine tj_iconst 16 dL_mostMet_15 rfl ?_
  exact ev_ireturn ⟨rfl, _, _, _, hT, _, hP, rfl⟩ rfl dL_mostMet_16
set_option maxRecDepth 100000 in
set_option maxHeartbeats 4000000 in
theorem w_mostMet_x1 {g : Gt} {α : AL} {ν : Nat → Nat → Bool} {X : XM} {h : AH} (hT : TR g α ν X h) {p0 : Int} (hc : Th g M_X11_mostMet 28 [.ref (α 0 0), .int (J p0)] h "java/lang/IndexOutOfBoundsException") : Al g M_L_mostMet 29 [.ref (α 0 0), .int (J p0), .ref (α 90 0)] h 1 6 (some (.int (J 1))) (fun a n x => a = α ∧ n = ν ∧ x = X) := by
  refine ct_of_evH rfl rfl (ls := [some (.ref (α 0 0)), some (.int (J p0)), some (.ref (α 90 0)), none]) rfl (Nat.le_of_ble_eq_true rfl) ?_
  show Ev g M_L_mostMet 29 0 [some (.ref (α 0 0)), some (.int (J p0)), some (.ref (α 90 0)), none] [] h (1 + 0) (6 + 0) (fun r h' => r = .inl (some (.int (J 1))) ∧ ∃ α' ν' X', TR g α' ν' X' h' ∧ (α' = α ∧ ν' = ν ∧ X' = X))
  refine ev_ald2 1 dL_mostMet_0 rfl ?_
  refine tj_iconst 2 dL_mostMet_1 rfl ?_
  refine ev_ald0 3 dL_mostMet_2 rfl ?_
  refine ev_ild1 4 dL_mostMet_3 rfl ?_
  refine tz_V1 7 13 dL_mostMet_4 lkv_L_154 (tr0 hT) rfl rfl (by decide) (Nat.le_of_ble_eq_true rfl) hc ?_
  refine xv_catch (name := "java/lang/IndexOutOfBoundsException") [] [] rfl (fun z hz => by cases hz) ⟨by decide, by decide⟩ (by decide) (List.mem_of_getElem? (i := 700) (by decide +kernel)) (List.mem_of_getElem? (i := 734) (by decide +kernel)) (fun q => ?_)
  refine ev_ast3 13 dL_mostMet_12 rfl (by decide) rfl ?_
  refine tj_iconst 14 dL_mostMet_13 rfl ?_
  exact ev_ireturn ⟨rfl, _, _, _, hT, rfl, rfl, rfl⟩ rfl dL_mostMet_14
abbrev M_L_mostMetByTrial : Mt := (yL_mostMetByTrial, cL_mostMetByTrial, 4, (Option.some Jvm.ClassFile.FieldType.int), [(0, 9, 12, 24)])
set_option maxRecDepth 100000 in
set_option maxHeartbeats 4000000 in
theorem w_mostMetByTrial_ok {g : Gt} {α : AL} {ν : Nat → Nat → Bool} {X : XM} {h : AH} (hT : TR g α ν X h) {p0 : Int} {z : Int} (hz : R31 z) {P : AL → (Nat → Nat → Bool) → XM → Prop} {mc ms : Nat} (hA : ∀ a n x, P a n x → a 90 0 = α 90 0) (hc : Al g M_X11_mostMetByTrial 28 [.ref (α 0 0), .int (J p0)] h mc ms (some (.int (J z))) P) : Al g M_L_mostMetByTrial 29 [.ref (α 0 0), .int (J p0), .ref (α 90 0)] h mc ms (some (.int (J 0))) (fun a n x => ∃ x0, P a n x0 ∧ x = xs x0 90 0 0 z) := by
  refine ct_of_evH rfl rfl (ls := [some (.ref (α 0 0)), some (.int (J p0)), some (.ref (α 90 0)), none]) rfl (Nat.le_of_ble_eq_true rfl) ?_
  show Ev g M_L_mostMetByTrial 29 0 [some (.ref (α 0 0)), some (.int (J p0)), some (.ref (α 90 0)), none] [] h (mc + 0) (ms + 0) (fun r h' => r = .inl (some (.int (J 0))) ∧ ∃ α' ν' X', TR g α' ν' X' h' ∧ ∃ x0, P α' ν' x0 ∧ X' = xs x0 90 0 0 z)
  refine ev_ald2 1 dL_mostMetByTrial_0 rfl ?_
  refine tj_iconst 2 dL_mostMetByTrial_1 rfl ?_
  refine ev_ald0 3 dL_mostMetByTrial_2 rfl ?_
  refine ev_ild1 4 dL_mostMetByTrial_3 rfl ?_
  refine ta_V1 7 13 dL_mostMetByTrial_4 lkv_L_157 (tr0 hT) rfl rfl (by decide) (Nat.le_of_ble_eq_true rfl) hc (fun h α' ν' X1 hT hP => ?_)
  rw [← hA _ _ _ hP]
  refine ev_i2l 8 dL_mostMetByTrial_7 rfl ?_
  rw [J_i2l _ hz]
  refine tv_last 9 hT rfl hz dL_mostMetByTrial_8 rfl (fun h hT => ?_)
  refine ev_goto 15 dL_mostMetByTrial_9 (by decide) ?_
  refine tj_iconst 16 dL_mostMetByTrial_15 rfl ?_
  exact ev_ireturn ⟨rfl, _, _, _, hT, _, hP, rfl⟩ rfl dL_mostMetByTrial_16
set_option maxRecDepth 100000 in
set_option maxHeartbeats 4000000 in
theorem w_mostMetByTrial_x1 {g : Gt} {α : AL} {ν : Nat → Nat → Bool} {X : XM} {h : AH} (hT : TR g α ν X h) {p0 : Int} (hc : Th g M_X11_mostMetByTrial 28 [.ref (α 0 0), .int (J p0)] h "java/lang/IndexOutOfBoundsException") : Al g M_L_mostMetByTrial 29 [.ref (α 0 0), .int (J p0), .ref (α 90 0)] h 1 6 (some (.int (J 1))) (fun a n x => a = α ∧ n = ν ∧ x = X) := by
  refine ct_of_evH rfl rfl (ls := [some (.ref (α 0 0)), some (.int (J p0)), some (.ref (α 90 0)), none]) rfl (Nat.le_of_ble_eq_true rfl) ?_
  show Ev g M_L_mostMetByTrial 29 0 [some (.ref (α 0 0)), some (.int (J p0)), some (.ref (α 90 0)), none] [] h (1 + 0) (6 + 0) (fun r h' => r = .inl (some (.int (J 1))) ∧ ∃ α' ν' X', TR g α' ν' X' h' ∧ (α' = α ∧ ν' = ν ∧ X' = X))
  refine ev_ald2 1 dL_mostMetByTrial_0 rfl ?_
  refine tj_iconst 2 dL_mostMetByTrial_1 rfl ?_
  refine ev_ald0 3 dL_mostMetByTrial_2 rfl ?_
  refine ev_ild1 4 dL_mostMetByTrial_3 rfl ?_
  refine tz_V1 7 13 dL_mostMetByTrial_4 lkv_L_157 (tr0 hT) rfl rfl (by decide) (Nat.le_of_ble_eq_true rfl) hc ?_
  refine xv_catch (name := "java/lang/IndexOutOfBoundsException") [] [] rfl (fun z hz => by cases hz) ⟨by decide, by decide⟩ (by decide) (List.mem_of_getElem? (i := 700) (by decide +kernel)) (List.mem_of_getElem? (i := 734) (by decide +kernel)) (fun q => ?_)
  refine ev_ast3 13 dL_mostMetByTrial_12 rfl (by decide) rfl ?_
  refine tj_iconst 14 dL_mostMetByTrial_13 rfl ?_
  exact ev_ireturn ⟨rfl, _, _, _, hT, rfl, rfl, rfl⟩ rfl dL_mostMetByTrial_14
abbrev M_L_mostMetIf : Mt := (yL_mostMetIf, cL_mostMetIf, 4, (Option.some Jvm.ClassFile.FieldType.int), [(0, 9, 12, 24)])
set_option maxRecDepth 100000 in
set_option maxHeartbeats 4000000 in
theorem w_mostMetIf_ok {g : Gt} {α : AL} {ν : Nat → Nat → Bool} {X : XM} {h : AH} (hT : TR g α ν X h) {p0 : Int} {z : Int} (hz : R31 z) {P : AL → (Nat → Nat → Bool) → XM → Prop} {mc ms : Nat} (hA : ∀ a n x, P a n x → a 90 0 = α 90 0) (hc : Al g M_X11_mostMetIf 28 [.ref (α 0 0), .int (J p0)] h mc ms (some (.int (J z))) P) : Al g M_L_mostMetIf 29 [.ref (α 0 0), .int (J p0), .ref (α 90 0)] h mc ms (some (.int (J 0))) (fun a n x => ∃ x0, P a n x0 ∧ x = xs x0 90 0 0 z) := by
  refine ct_of_evH rfl rfl (ls := [some (.ref (α 0 0)), some (.int (J p0)), some (.ref (α 90 0)), none]) rfl (Nat.le_of_ble_eq_true rfl) ?_
  show Ev g M_L_mostMetIf 29 0 [some (.ref (α 0 0)), some (.int (J p0)), some (.ref (α 90 0)), none] [] h (mc + 0) (ms + 0) (fun r h' => r = .inl (some (.int (J 0))) ∧ ∃ α' ν' X', TR g α' ν' X' h' ∧ ∃ x0, P α' ν' x0 ∧ X' = xs x0 90 0 0 z)
  refine ev_ald2 1 dL_mostMetIf_0 rfl ?_
  refine tj_iconst 2 dL_mostMetIf_1 rfl ?_
  refine ev_ald0 3 dL_mostMetIf_2 rfl ?_
  refine ev_ild1 4 dL_mostMetIf_3 rfl ?_
  refine ta_V1 7 13 dL_mostMetIf_4 lkv_L_160 (tr0 hT) rfl rfl (by decide) (Nat.le_of_ble_eq_true rfl) hc (fun h α' ν' X1 hT hP => ?_)
  rw [← hA _ _ _ hP]
  refine ev_i2l 8 dL_mostMetIf_7 rfl ?_
  rw [J_i2l _ hz]
  refine tv_last 9 hT rfl hz dL_mostMetIf_8 rfl (fun h hT => ?_)
  refine ev_goto 15 dL_mostMetIf_9 (by decide) ?_
  refine tj_iconst 16 dL_mostMetIf_15 rfl ?_
  exact ev_ireturn ⟨rfl, _, _, _, hT, _, hP, rfl⟩ rfl dL_mostMetIf_16
set_option maxRecDepth 100000 in
set_option maxHeartbeats 4000000 in
theorem w_mostMetIf_x1 {g : Gt} {α : AL} {ν : Nat → Nat → Bool} {X : XM} {h : AH} (hT : TR g α ν X h) {p0 : Int} (hc : Th g M_X11_mostMetIf 28 [.ref (α 0 0), .int (J p0)] h "java/lang/IndexOutOfBoundsException") : Al g M_L_mostMetIf 29 [.ref (α 0 0), .int (J p0), .ref (α 90 0)] h 1 6 (some (.int (J 1))) (fun a n x => a = α ∧ n = ν ∧ x = X) := by
  refine ct_of_evH rfl rfl (ls := [some (.ref (α 0 0)), some (.int (J p0)), some (.ref (α 90 0)), none]) rfl (Nat.le_of_ble_eq_true rfl) ?_
  show Ev g M_L_mostMetIf 29 0 [some (.ref (α 0 0)), some (.int (J p0)), some (.ref (α 90 0)), none] [] h (1 + 0) (6 + 0) (fun r h' => r = .inl (some (.int (J 1))) ∧ ∃ α' ν' X', TR g α' ν' X' h' ∧ (α' = α ∧ ν' = ν ∧ X' = X))
  refine ev_ald2 1 dL_mostMetIf_0 rfl ?_
  refine tj_iconst 2 dL_mostMetIf_1 rfl ?_
  refine ev_ald0 3 dL_mostMetIf_2 rfl ?_
  refine ev_ild1 4 dL_mostMetIf_3 rfl ?_
  refine tz_V1 7 13 dL_mostMetIf_4 lkv_L_160 (tr0 hT) rfl rfl (by decide) (Nat.le_of_ble_eq_true rfl) hc ?_
  refine xv_catch (name := "java/lang/IndexOutOfBoundsException") [] [] rfl (fun z hz => by cases hz) ⟨by decide, by decide⟩ (by decide) (List.mem_of_getElem? (i := 700) (by decide +kernel)) (List.mem_of_getElem? (i := 734) (by decide +kernel)) (fun q => ?_)
  refine ev_ast3 13 dL_mostMetIf_12 rfl (by decide) rfl ?_
  refine tj_iconst 14 dL_mostMetIf_13 rfl ?_
  exact ev_ireturn ⟨rfl, _, _, _, hT, rfl, rfl, rfl⟩ rfl dL_mostMetIf_14
abbrev M_L_moveIn : Mt := (yL_moveIn, cL_moveIn, 5, (Option.some Jvm.ClassFile.FieldType.int), [(0, 10, 13, 24), (0, 10, 17, 13), (0, 10, 21, 76)])
set_option maxRecDepth 100000 in
set_option maxHeartbeats 4000000 in
theorem w_moveIn_ok {g : Gt} {α : AL} {ν : Nat → Nat → Bool} {X : XM} {h : AH} (hT : TR g α ν X h) {p0 p1 : Int} {z : Int} (hz : R31 z) {P : AL → (Nat → Nat → Bool) → XM → Prop} {mc ms : Nat} (hA : ∀ a n x, P a n x → a 90 0 = α 90 0) (hc : Al g M_X11_moveIn 28 [.ref (α 0 0), .int (J p0), .int (J p1)] h mc ms (some (.int (J z))) P) : Al g M_L_moveIn 29 [.ref (α 0 0), .int (J p0), .int (J p1), .ref (α 90 0)] h mc ms (some (.int (J 0))) (fun a n x => ∃ x0, P a n x0 ∧ x = xs x0 90 0 0 z) := by
  refine ct_of_evH rfl rfl (ls := [some (.ref (α 0 0)), some (.int (J p0)), some (.int (J p1)), some (.ref (α 90 0)), none]) rfl (Nat.le_of_ble_eq_true rfl) ?_
  show Ev g M_L_moveIn 29 0 [some (.ref (α 0 0)), some (.int (J p0)), some (.int (J p1)), some (.ref (α 90 0)), none] [] h (mc + 0) (ms + 0) (fun r h' => r = .inl (some (.int (J 0))) ∧ ∃ α' ν' X', TR g α' ν' X' h' ∧ ∃ x0, P α' ν' x0 ∧ X' = xs x0 90 0 0 z)
  refine ev_ald3 1 dL_moveIn_0 rfl ?_
  refine tj_iconst 2 dL_moveIn_1 rfl ?_
  refine ev_ald0 3 dL_moveIn_2 rfl ?_
  refine ev_ild1 4 dL_moveIn_3 rfl ?_
  refine ev_ild2 5 dL_moveIn_4 rfl ?_
  refine ta_V2 8 13 dL_moveIn_5 lkv_L_95 (tr0 hT) rfl rfl (by decide) (Nat.le_of_ble_eq_true rfl) hc (fun h α' ν' X1 hT hP => ?_)
  rw [← hA _ _ _ hP]
  refine ev_i2l 9 dL_moveIn_8 rfl ?_
  rw [J_i2l _ hz]
  refine tv_last 10 hT rfl hz dL_moveIn_9 rfl (fun h hT => ?_)
  refine ev_goto 25 dL_moveIn_10 (by decide) ?_
  refine tj_iconst 26 dL_moveIn_25 rfl ?_
  exact ev_ireturn ⟨rfl, _, _, _, hT, _, hP, rfl⟩ rfl dL_moveIn_26
set_option maxRecDepth 100000 in
set_option maxHeartbeats 4000000 in
theorem w_moveIn_x1 {g : Gt} {α : AL} {ν : Nat → Nat → Bool} {X : XM} {h : AH} (hT : TR g α ν X h) {p0 p1 : Int} (hc : Th g M_X11_moveIn 28 [.ref (α 0 0), .int (J p0), .int (J p1)] h "java/lang/IndexOutOfBoundsException") : Al g M_L_moveIn 29 [.ref (α 0 0), .int (J p0), .int (J p1), .ref (α 90 0)] h 1 6 (some (.int (J 1))) (fun a n x => a = α ∧ n = ν ∧ x = X) := by
  refine ct_of_evH rfl rfl (ls := [some (.ref (α 0 0)), some (.int (J p0)), some (.int (J p1)), some (.ref (α 90 0)), none]) rfl (Nat.le_of_ble_eq_true rfl) ?_
  show Ev g M_L_moveIn 29 0 [some (.ref (α 0 0)), some (.int (J p0)), some (.int (J p1)), some (.ref (α 90 0)), none] [] h (1 + 0) (6 + 0) (fun r h' => r = .inl (some (.int (J 1))) ∧ ∃ α' ν' X', TR g α' ν' X' h' ∧ (α' = α ∧ ν' = ν ∧ X' = X))
  refine ev_ald3 1 dL_moveIn_0 rfl ?_
  refine tj_iconst 2 dL_moveIn_1 rfl ?_
  refine ev_ald0 3 dL_moveIn_2 rfl ?_
  refine ev_ild1 4 dL_moveIn_3 rfl ?_
  refine ev_ild2 5 dL_moveIn_4 rfl ?_
  refine tz_V2 8 13 dL_moveIn_5 lkv_L_95 (tr0 hT) rfl rfl (by decide) (Nat.le_of_ble_eq_true rfl) hc ?_
  refine xv_catch (name := "java/lang/IndexOutOfBoundsException") [] [(0, 10, 17, 13), (0, 10, 21, 76)] rfl (fun z hz => by cases hz) ⟨by decide, by decide⟩ (by decide) (List.mem_of_getElem? (i := 700) (by decide +kernel)) (List.mem_of_getElem? (i := 734) (by decide +kernel)) (fun q => ?_)
  refine ev_ast4 15 dL_moveIn_13 rfl (by decide) rfl ?_
  refine tj_iconst 16 dL_moveIn_15 rfl ?_
  exact ev_ireturn ⟨rfl, _, _, _, hT, rfl, rfl, rfl⟩ rfl dL_moveIn_16
set_option maxRecDepth 100000 in
set_option maxHeartbeats 4000000 in
theorem w_moveIn_x2 {g : Gt} {α : AL} {ν : Nat → Nat → Bool} {X : XM} {h : AH} (hT : TR g α ν X h) {p0 p1 : Int} (hc : Th g M_X11_moveIn 28 [.ref (α 0 0), .int (J p0), .int (J p1)] h "java/lang/IllegalArgumentException") : Al g M_L_moveIn 29 [.ref (α 0 0), .int (J p0), .int (J p1), .ref (α 90 0)] h 1 6 (some (.int (J 2))) (fun a n x => a = α ∧ n = ν ∧ x = X) := by
  refine ct_of_evH rfl rfl (ls := [some (.ref (α 0 0)), some (.int (J p0)), some (.int (J p1)), some (.ref (α 90 0)), none]) rfl (Nat.le_of_ble_eq_true rfl) ?_
  show Ev g M_L_moveIn 29 0 [some (.ref (α 0 0)), some (.int (J p0)), some (.int (J p1)), some (.ref (α 90 0)), none] [] h (1 + 0) (6 + 0) (fun r h' => r = .inl (some (.int (J 2))) ∧ ∃ α' ν' X', TR g α' ν' X' h' ∧ (α' = α ∧ ν' = ν ∧ X' = X))
  refine ev_ald3 1 dL_moveIn_0 rfl ?_
  refine tj_iconst 2 dL_moveIn_1 rfl ?_
  refine ev_ald0 3 dL_moveIn_2 rfl ?_
  refine ev_ild1 4 dL_moveIn_3 rfl ?_
  refine ev_ild2 5 dL_moveIn_4 rfl ?_
  refine tz_V2 8 13 dL_moveIn_5 lkv_L_95 (tr0 hT) rfl rfl (by decide) (Nat.le_of_ble_eq_true rfl) hc ?_
  refine xv_catch (name := "java/lang/IllegalArgumentException") [(0, 10, 13, 24)] [(0, 10, 21, 76)] rfl (fun z hz => by rcases (by simpa using hz : z = (0, 10, 13, 24)) with rfl <;> first | exact ⟨by decide, "java/lang/IndexOutOfBoundsException", List.mem_of_getElem? (i := 700) (by decide +kernel), by decide +kernel⟩) ⟨by decide, by decide⟩ (by decide) (List.mem_of_getElem? (i := 493) (by decide +kernel)) (List.mem_of_getElem? (i := 504) (by decide +kernel)) (fun q => ?_)
  refine ev_ast4 19 dL_moveIn_17 rfl (by decide) rfl ?_
  refine tj_iconst 20 dL_moveIn_19 rfl ?_
  exact ev_ireturn ⟨rfl, _, _, _, hT, rfl, rfl, rfl⟩ rfl dL_moveIn_20
set_option maxRecDepth 100000 in
set_option maxHeartbeats 4000000 in
theorem w_moveIn_x3 {g : Gt} {α : AL} {ν : Nat → Nat → Bool} {X : XM} {h : AH} (hT : TR g α ν X h) {p0 p1 : Int} (hc : Th g M_X11_moveIn 28 [.ref (α 0 0), .int (J p0), .int (J p1)] h "java/lang/ArithmeticException") : Al g M_L_moveIn 29 [.ref (α 0 0), .int (J p0), .int (J p1), .ref (α 90 0)] h 1 6 (some (.int (J 3))) (fun a n x => a = α ∧ n = ν ∧ x = X) := by
  refine ct_of_evH rfl rfl (ls := [some (.ref (α 0 0)), some (.int (J p0)), some (.int (J p1)), some (.ref (α 90 0)), none]) rfl (Nat.le_of_ble_eq_true rfl) ?_
  show Ev g M_L_moveIn 29 0 [some (.ref (α 0 0)), some (.int (J p0)), some (.int (J p1)), some (.ref (α 90 0)), none] [] h (1 + 0) (6 + 0) (fun r h' => r = .inl (some (.int (J 3))) ∧ ∃ α' ν' X', TR g α' ν' X' h' ∧ (α' = α ∧ ν' = ν ∧ X' = X))
  refine ev_ald3 1 dL_moveIn_0 rfl ?_
  refine tj_iconst 2 dL_moveIn_1 rfl ?_
  refine ev_ald0 3 dL_moveIn_2 rfl ?_
  refine ev_ild1 4 dL_moveIn_3 rfl ?_
  refine ev_ild2 5 dL_moveIn_4 rfl ?_
  refine tz_V2 8 13 dL_moveIn_5 lkv_L_95 (tr0 hT) rfl rfl (by decide) (Nat.le_of_ble_eq_true rfl) hc ?_
  refine xv_catch (name := "java/lang/ArithmeticException") [(0, 10, 13, 24), (0, 10, 17, 13)] [] rfl (fun z hz => by rcases (by simpa using hz : z = (0, 10, 13, 24) ∨ z = (0, 10, 17, 13)) with rfl | rfl <;> first | exact ⟨by decide, "java/lang/IndexOutOfBoundsException", List.mem_of_getElem? (i := 700) (by decide +kernel), by decide +kernel⟩ | exact ⟨by decide, "java/lang/IllegalArgumentException", List.mem_of_getElem? (i := 493) (by decide +kernel), by decide +kernel⟩) ⟨by decide, by decide⟩ (by decide) (List.mem_of_getElem? (i := 986) (by decide +kernel)) (List.mem_of_getElem? (i := 998) (by decide +kernel)) (fun q => ?_)
  refine ev_ast4 23 dL_moveIn_21 rfl (by decide) rfl ?_
  refine tj_iconst 24 dL_moveIn_23 rfl ?_
  exact ev_ireturn ⟨rfl, _, _, _, hT, rfl, rfl, rfl⟩ rfl dL_moveIn_24
abbrev M_L_noneFormula : Mt := (yL_noneFormula, cL_noneFormula, 4, (Option.some Jvm.ClassFile.FieldType.int), [(0, 9, 12, 45), (0, 9, 15, 15)])
set_option maxRecDepth 100000 in
set_option maxHeartbeats 4000000 in
theorem w_noneFormula_ok {g : Gt} {α : AL} {ν : Nat → Nat → Bool} {X : XM} {h : AH} (hT : TR g α ν X h) {p0 : Int} {z : Int} (hz : R31 z) {P : AL → (Nat → Nat → Bool) → XM → Prop} {mc ms : Nat} (hA : ∀ a n x, P a n x → a 90 0 = α 90 0) (hc : Al g M_X11_noneFormula 28 [.ref (α 0 0), .int (J p0)] h mc ms (some (.int (J z))) P) : Al g M_L_noneFormula 29 [.ref (α 0 0), .int (J p0), .ref (α 90 0)] h mc ms (some (.int (J 0))) (fun a n x => ∃ x0, P a n x0 ∧ x = xs x0 90 0 0 z) := by
  refine ct_of_evH rfl rfl (ls := [some (.ref (α 0 0)), some (.int (J p0)), some (.ref (α 90 0)), none]) rfl (Nat.le_of_ble_eq_true rfl) ?_
  show Ev g M_L_noneFormula 29 0 [some (.ref (α 0 0)), some (.int (J p0)), some (.ref (α 90 0)), none] [] h (mc + 0) (ms + 0) (fun r h' => r = .inl (some (.int (J 0))) ∧ ∃ α' ν' X', TR g α' ν' X' h' ∧ ∃ x0, P α' ν' x0 ∧ X' = xs x0 90 0 0 z)
  refine ev_ald2 1 dL_noneFormula_0 rfl ?_
  refine tj_iconst 2 dL_noneFormula_1 rfl ?_
  refine ev_ald0 3 dL_noneFormula_2 rfl ?_
  refine ev_ild1 4 dL_noneFormula_3 rfl ?_
  refine ta_V1 7 13 dL_noneFormula_4 lkv_L_53 (tr0 hT) rfl rfl (by decide) (Nat.le_of_ble_eq_true rfl) hc (fun h α' ν' X1 hT hP => ?_)
  rw [← hA _ _ _ hP]
  refine ev_i2l 8 dL_noneFormula_7 rfl ?_
  rw [J_i2l _ hz]
  refine tv_last 9 hT rfl hz dL_noneFormula_8 rfl (fun h hT => ?_)
  refine ev_goto 18 dL_noneFormula_9 (by decide) ?_
  refine tj_iconst 19 dL_noneFormula_18 rfl ?_
  exact ev_ireturn ⟨rfl, _, _, _, hT, _, hP, rfl⟩ rfl dL_noneFormula_19
set_option maxRecDepth 100000 in
set_option maxHeartbeats 4000000 in
theorem w_noneFormula_x1 {g : Gt} {α : AL} {ν : Nat → Nat → Bool} {X : XM} {h : AH} (hT : TR g α ν X h) {p0 : Int} (hc : Th g M_X11_noneFormula 28 [.ref (α 0 0), .int (J p0)] h "java/util/NoSuchElementException") : Al g M_L_noneFormula 29 [.ref (α 0 0), .int (J p0), .ref (α 90 0)] h 1 6 (some (.int (J 1))) (fun a n x => a = α ∧ n = ν ∧ x = X) := by
  refine ct_of_evH rfl rfl (ls := [some (.ref (α 0 0)), some (.int (J p0)), some (.ref (α 90 0)), none]) rfl (Nat.le_of_ble_eq_true rfl) ?_
  show Ev g M_L_noneFormula 29 0 [some (.ref (α 0 0)), some (.int (J p0)), some (.ref (α 90 0)), none] [] h (1 + 0) (6 + 0) (fun r h' => r = .inl (some (.int (J 1))) ∧ ∃ α' ν' X', TR g α' ν' X' h' ∧ (α' = α ∧ ν' = ν ∧ X' = X))
  refine ev_ald2 1 dL_noneFormula_0 rfl ?_
  refine tj_iconst 2 dL_noneFormula_1 rfl ?_
  refine ev_ald0 3 dL_noneFormula_2 rfl ?_
  refine ev_ild1 4 dL_noneFormula_3 rfl ?_
  refine tz_V1 7 13 dL_noneFormula_4 lkv_L_53 (tr0 hT) rfl rfl (by decide) (Nat.le_of_ble_eq_true rfl) hc ?_
  refine xv_catch (name := "java/util/NoSuchElementException") [] [(0, 9, 15, 15)] rfl (fun z hz => by cases hz) ⟨by decide, by decide⟩ (by decide) (List.mem_of_getElem? (i := 867) (by decide +kernel)) (List.mem_of_getElem? (i := 878) (by decide +kernel)) (fun q => ?_)
  refine ev_ast3 13 dL_noneFormula_12 rfl (by decide) rfl ?_
  refine tj_iconst 14 dL_noneFormula_13 rfl ?_
  exact ev_ireturn ⟨rfl, _, _, _, hT, rfl, rfl, rfl⟩ rfl dL_noneFormula_14
set_option maxRecDepth 100000 in
set_option maxHeartbeats 4000000 in
theorem w_noneFormula_x2 {g : Gt} {α : AL} {ν : Nat → Nat → Bool} {X : XM} {h : AH} (hT : TR g α ν X h) {p0 : Int} (hc : Th g M_X11_noneFormula 28 [.ref (α 0 0), .int (J p0)] h "java/lang/IllegalStateException") : Al g M_L_noneFormula 29 [.ref (α 0 0), .int (J p0), .ref (α 90 0)] h 1 6 (some (.int (J 2))) (fun a n x => a = α ∧ n = ν ∧ x = X) := by
  refine ct_of_evH rfl rfl (ls := [some (.ref (α 0 0)), some (.int (J p0)), some (.ref (α 90 0)), none]) rfl (Nat.le_of_ble_eq_true rfl) ?_
  show Ev g M_L_noneFormula 29 0 [some (.ref (α 0 0)), some (.int (J p0)), some (.ref (α 90 0)), none] [] h (1 + 0) (6 + 0) (fun r h' => r = .inl (some (.int (J 2))) ∧ ∃ α' ν' X', TR g α' ν' X' h' ∧ (α' = α ∧ ν' = ν ∧ X' = X))
  refine ev_ald2 1 dL_noneFormula_0 rfl ?_
  refine tj_iconst 2 dL_noneFormula_1 rfl ?_
  refine ev_ald0 3 dL_noneFormula_2 rfl ?_
  refine ev_ild1 4 dL_noneFormula_3 rfl ?_
  refine tz_V1 7 13 dL_noneFormula_4 lkv_L_53 (tr0 hT) rfl rfl (by decide) (Nat.le_of_ble_eq_true rfl) hc ?_
  refine xv_catch (name := "java/lang/IllegalStateException") [(0, 9, 12, 45)] [] rfl (fun z hz => by rcases (by simpa using hz : z = (0, 9, 12, 45)) with rfl <;> first | exact ⟨by decide, "java/util/NoSuchElementException", List.mem_of_getElem? (i := 867) (by decide +kernel), by decide +kernel⟩) ⟨by decide, by decide⟩ (by decide) (List.mem_of_getElem? (i := 494) (by decide +kernel)) (List.mem_of_getElem? (i := 576) (by decide +kernel)) (fun q => ?_)
  refine ev_ast3 16 dL_noneFormula_15 rfl (by decide) rfl ?_
  refine tj_iconst 17 dL_noneFormula_16 rfl ?_
  exact ev_ireturn ⟨rfl, _, _, _, hT, rfl, rfl, rfl⟩ rfl dL_noneFormula_17
abbrev M_L_outcome : Mt := (yL_outcome, cL_outcome, 5, (Option.some Jvm.ClassFile.FieldType.int), [(0, 10, 13, 24)])
set_option maxRecDepth 100000 in
set_option maxHeartbeats 4000000 in
theorem w_outcome_ok {g : Gt} {α : AL} {ν : Nat → Nat → Bool} {X : XM} {h : AH} (hT : TR g α ν X h) {p0 p1 : Int} {z : Int} (hz : R31 z) {P : AL → (Nat → Nat → Bool) → XM → Prop} {mc ms : Nat} (hA : ∀ a n x, P a n x → a 90 0 = α 90 0) (hc : Al g M_X11_outcome 28 [.ref (α 0 0), .int (J p0), .int (J p1)] h mc ms (some (.int (J z))) P) : Al g M_L_outcome 29 [.ref (α 0 0), .int (J p0), .int (J p1), .ref (α 90 0)] h mc ms (some (.int (J 0))) (fun a n x => ∃ x0, P a n x0 ∧ x = xs x0 90 0 0 z) := by
  refine ct_of_evH rfl rfl (ls := [some (.ref (α 0 0)), some (.int (J p0)), some (.int (J p1)), some (.ref (α 90 0)), none]) rfl (Nat.le_of_ble_eq_true rfl) ?_
  show Ev g M_L_outcome 29 0 [some (.ref (α 0 0)), some (.int (J p0)), some (.int (J p1)), some (.ref (α 90 0)), none] [] h (mc + 0) (ms + 0) (fun r h' => r = .inl (some (.int (J 0))) ∧ ∃ α' ν' X', TR g α' ν' X' h' ∧ ∃ x0, P α' ν' x0 ∧ X' = xs x0 90 0 0 z)
  refine ev_ald3 1 dL_outcome_0 rfl ?_
  refine tj_iconst 2 dL_outcome_1 rfl ?_
  refine ev_ald0 3 dL_outcome_2 rfl ?_
  refine ev_ild1 4 dL_outcome_3 rfl ?_
  refine ev_ild2 5 dL_outcome_4 rfl ?_
  refine ta_V2 8 13 dL_outcome_5 lkv_L_78 (tr0 hT) rfl rfl (by decide) (Nat.le_of_ble_eq_true rfl) hc (fun h α' ν' X1 hT hP => ?_)
  rw [← hA _ _ _ hP]
  refine ev_i2l 9 dL_outcome_8 rfl ?_
  rw [J_i2l _ hz]
  refine tv_last 10 hT rfl hz dL_outcome_9 rfl (fun h hT => ?_)
  refine ev_goto 17 dL_outcome_10 (by decide) ?_
  refine tj_iconst 18 dL_outcome_17 rfl ?_
  exact ev_ireturn ⟨rfl, _, _, _, hT, _, hP, rfl⟩ rfl dL_outcome_18
set_option maxRecDepth 100000 in
set_option maxHeartbeats 4000000 in
theorem w_outcome_x1 {g : Gt} {α : AL} {ν : Nat → Nat → Bool} {X : XM} {h : AH} (hT : TR g α ν X h) {p0 p1 : Int} (hc : Th g M_X11_outcome 28 [.ref (α 0 0), .int (J p0), .int (J p1)] h "java/lang/IndexOutOfBoundsException") : Al g M_L_outcome 29 [.ref (α 0 0), .int (J p0), .int (J p1), .ref (α 90 0)] h 1 6 (some (.int (J 1))) (fun a n x => a = α ∧ n = ν ∧ x = X) := by
  refine ct_of_evH rfl rfl (ls := [some (.ref (α 0 0)), some (.int (J p0)), some (.int (J p1)), some (.ref (α 90 0)), none]) rfl (Nat.le_of_ble_eq_true rfl) ?_
  show Ev g M_L_outcome 29 0 [some (.ref (α 0 0)), some (.int (J p0)), some (.int (J p1)), some (.ref (α 90 0)), none] [] h (1 + 0) (6 + 0) (fun r h' => r = .inl (some (.int (J 1))) ∧ ∃ α' ν' X', TR g α' ν' X' h' ∧ (α' = α ∧ ν' = ν ∧ X' = X))
  refine ev_ald3 1 dL_outcome_0 rfl ?_
  refine tj_iconst 2 dL_outcome_1 rfl ?_
  refine ev_ald0 3 dL_outcome_2 rfl ?_
  refine ev_ild1 4 dL_outcome_3 rfl ?_
  refine ev_ild2 5 dL_outcome_4 rfl ?_
  refine tz_V2 8 13 dL_outcome_5 lkv_L_78 (tr0 hT) rfl rfl (by decide) (Nat.le_of_ble_eq_true rfl) hc ?_
  refine xv_catch (name := "java/lang/IndexOutOfBoundsException") [] [] rfl (fun z hz => by cases hz) ⟨by decide, by decide⟩ (by decide) (List.mem_of_getElem? (i := 700) (by decide +kernel)) (List.mem_of_getElem? (i := 734) (by decide +kernel)) (fun q => ?_)
  refine ev_ast4 15 dL_outcome_13 rfl (by decide) rfl ?_
  refine tj_iconst 16 dL_outcome_15 rfl ?_
  exact ev_ireturn ⟨rfl, _, _, _, hT, rfl, rfl, rfl⟩ rfl dL_outcome_16
abbrev M_L_pass : Mt := (yL_pass, cL_pass, 4, (Option.some Jvm.ClassFile.FieldType.int), [(0, 9, 12, 13), (0, 9, 15, 15)])
set_option maxRecDepth 100000 in
set_option maxHeartbeats 4000000 in
theorem w_pass_ok {g : Gt} {α : AL} {ν : Nat → Nat → Bool} {X : XM} {h : AH} (hT : TR g α ν X h) {p0 : Int} {z : Int} (hz : R31 z) {P : AL → (Nat → Nat → Bool) → XM → Prop} {mc ms : Nat} (hA : ∀ a n x, P a n x → a 90 0 = α 90 0) (hc : Al g M_X11_pass 28 [.ref (α 0 0), .int (J p0)] h mc ms (some (.int (J z))) P) : Al g M_L_pass 29 [.ref (α 0 0), .int (J p0), .ref (α 90 0)] h mc ms (some (.int (J 0))) (fun a n x => ∃ x0, P a n x0 ∧ x = xs x0 90 0 0 z) := by
  refine ct_of_evH rfl rfl (ls := [some (.ref (α 0 0)), some (.int (J p0)), some (.ref (α 90 0)), none]) rfl (Nat.le_of_ble_eq_true rfl) ?_
  show Ev g M_L_pass 29 0 [some (.ref (α 0 0)), some (.int (J p0)), some (.ref (α 90 0)), none] [] h (mc + 0) (ms + 0) (fun r h' => r = .inl (some (.int (J 0))) ∧ ∃ α' ν' X', TR g α' ν' X' h' ∧ ∃ x0, P α' ν' x0 ∧ X' = xs x0 90 0 0 z)
  refine ev_ald2 1 dL_pass_0 rfl ?_
  refine tj_iconst 2 dL_pass_1 rfl ?_
  refine ev_ald0 3 dL_pass_2 rfl ?_
  refine ev_ild1 4 dL_pass_3 rfl ?_
  refine ta_V1 7 13 dL_pass_4 lkv_L_67 (tr0 hT) rfl rfl (by decide) (Nat.le_of_ble_eq_true rfl) hc (fun h α' ν' X1 hT hP => ?_)
  rw [← hA _ _ _ hP]
  refine ev_i2l 8 dL_pass_7 rfl ?_
  rw [J_i2l _ hz]
  refine tv_last 9 hT rfl hz dL_pass_8 rfl (fun h hT => ?_)
  refine ev_goto 18 dL_pass_9 (by decide) ?_
  refine tj_iconst 19 dL_pass_18 rfl ?_
  exact ev_ireturn ⟨rfl, _, _, _, hT, _, hP, rfl⟩ rfl dL_pass_19
set_option maxRecDepth 100000 in
set_option maxHeartbeats 4000000 in
theorem w_pass_x1 {g : Gt} {α : AL} {ν : Nat → Nat → Bool} {X : XM} {h : AH} (hT : TR g α ν X h) {p0 : Int} (hc : Th g M_X11_pass 28 [.ref (α 0 0), .int (J p0)] h "java/lang/IllegalArgumentException") : Al g M_L_pass 29 [.ref (α 0 0), .int (J p0), .ref (α 90 0)] h 1 6 (some (.int (J 1))) (fun a n x => a = α ∧ n = ν ∧ x = X) := by
  refine ct_of_evH rfl rfl (ls := [some (.ref (α 0 0)), some (.int (J p0)), some (.ref (α 90 0)), none]) rfl (Nat.le_of_ble_eq_true rfl) ?_
  show Ev g M_L_pass 29 0 [some (.ref (α 0 0)), some (.int (J p0)), some (.ref (α 90 0)), none] [] h (1 + 0) (6 + 0) (fun r h' => r = .inl (some (.int (J 1))) ∧ ∃ α' ν' X', TR g α' ν' X' h' ∧ (α' = α ∧ ν' = ν ∧ X' = X))
  refine ev_ald2 1 dL_pass_0 rfl ?_
  refine tj_iconst 2 dL_pass_1 rfl ?_
  refine ev_ald0 3 dL_pass_2 rfl ?_
  refine ev_ild1 4 dL_pass_3 rfl ?_
  refine tz_V1 7 13 dL_pass_4 lkv_L_67 (tr0 hT) rfl rfl (by decide) (Nat.le_of_ble_eq_true rfl) hc ?_
  refine xv_catch (name := "java/lang/IllegalArgumentException") [] [(0, 9, 15, 15)] rfl (fun z hz => by cases hz) ⟨by decide, by decide⟩ (by decide) (List.mem_of_getElem? (i := 493) (by decide +kernel)) (List.mem_of_getElem? (i := 504) (by decide +kernel)) (fun q => ?_)
  refine ev_ast3 13 dL_pass_12 rfl (by decide) rfl ?_
  refine tj_iconst 14 dL_pass_13 rfl ?_
  exact ev_ireturn ⟨rfl, _, _, _, hT, rfl, rfl, rfl⟩ rfl dL_pass_14
set_option maxRecDepth 100000 in
set_option maxHeartbeats 4000000 in
theorem w_pass_x2 {g : Gt} {α : AL} {ν : Nat → Nat → Bool} {X : XM} {h : AH} (hT : TR g α ν X h) {p0 : Int} (hc : Th g M_X11_pass 28 [.ref (α 0 0), .int (J p0)] h "java/lang/IllegalStateException") : Al g M_L_pass 29 [.ref (α 0 0), .int (J p0), .ref (α 90 0)] h 1 6 (some (.int (J 2))) (fun a n x => a = α ∧ n = ν ∧ x = X) := by
  refine ct_of_evH rfl rfl (ls := [some (.ref (α 0 0)), some (.int (J p0)), some (.ref (α 90 0)), none]) rfl (Nat.le_of_ble_eq_true rfl) ?_
  show Ev g M_L_pass 29 0 [some (.ref (α 0 0)), some (.int (J p0)), some (.ref (α 90 0)), none] [] h (1 + 0) (6 + 0) (fun r h' => r = .inl (some (.int (J 2))) ∧ ∃ α' ν' X', TR g α' ν' X' h' ∧ (α' = α ∧ ν' = ν ∧ X' = X))
  refine ev_ald2 1 dL_pass_0 rfl ?_
  refine tj_iconst 2 dL_pass_1 rfl ?_
  refine ev_ald0 3 dL_pass_2 rfl ?_
  refine ev_ild1 4 dL_pass_3 rfl ?_
  refine tz_V1 7 13 dL_pass_4 lkv_L_67 (tr0 hT) rfl rfl (by decide) (Nat.le_of_ble_eq_true rfl) hc ?_
  refine xv_catch (name := "java/lang/IllegalStateException") [(0, 9, 12, 13)] [] rfl (fun z hz => by rcases (by simpa using hz : z = (0, 9, 12, 13)) with rfl <;> first | exact ⟨by decide, "java/lang/IllegalArgumentException", List.mem_of_getElem? (i := 493) (by decide +kernel), by decide +kernel⟩) ⟨by decide, by decide⟩ (by decide) (List.mem_of_getElem? (i := 494) (by decide +kernel)) (List.mem_of_getElem? (i := 576) (by decide +kernel)) (fun q => ?_)
  refine ev_ast3 16 dL_pass_15 rfl (by decide) rfl ?_
  refine tj_iconst 17 dL_pass_16 rfl ?_
  exact ev_ireturn ⟨rfl, _, _, _, hT, rfl, rfl, rfl⟩ rfl dL_pass_17
abbrev M_L_placeOf : Mt := (yL_placeOf, cL_placeOf, 5, (Option.some Jvm.ClassFile.FieldType.int), [(0, 10, 13, 24), (0, 10, 17, 45)])
set_option maxRecDepth 100000 in
set_option maxHeartbeats 4000000 in
theorem w_placeOf_ok {g : Gt} {α : AL} {ν : Nat → Nat → Bool} {X : XM} {h : AH} (hT : TR g α ν X h) {p0 p1 : Int} {z : Int} (hz : R31 z) {P : AL → (Nat → Nat → Bool) → XM → Prop} {mc ms : Nat} (hA : ∀ a n x, P a n x → a 90 0 = α 90 0) (hc : Al g M_X11_placeOf 28 [.ref (α 0 0), .int (J p0), .int (J p1)] h mc ms (some (.int (J z))) P) : Al g M_L_placeOf 29 [.ref (α 0 0), .int (J p0), .int (J p1), .ref (α 90 0)] h mc ms (some (.int (J 0))) (fun a n x => ∃ x0, P a n x0 ∧ x = xs x0 90 0 0 z) := by
  refine ct_of_evH rfl rfl (ls := [some (.ref (α 0 0)), some (.int (J p0)), some (.int (J p1)), some (.ref (α 90 0)), none]) rfl (Nat.le_of_ble_eq_true rfl) ?_
  show Ev g M_L_placeOf 29 0 [some (.ref (α 0 0)), some (.int (J p0)), some (.int (J p1)), some (.ref (α 90 0)), none] [] h (mc + 0) (ms + 0) (fun r h' => r = .inl (some (.int (J 0))) ∧ ∃ α' ν' X', TR g α' ν' X' h' ∧ ∃ x0, P α' ν' x0 ∧ X' = xs x0 90 0 0 z)
  refine ev_ald3 1 dL_placeOf_0 rfl ?_
  refine tj_iconst 2 dL_placeOf_1 rfl ?_
  refine ev_ald0 3 dL_placeOf_2 rfl ?_
  refine ev_ild1 4 dL_placeOf_3 rfl ?_
  refine ev_ild2 5 dL_placeOf_4 rfl ?_
  refine ta_V2 8 13 dL_placeOf_5 lkv_L_123 (tr0 hT) rfl rfl (by decide) (Nat.le_of_ble_eq_true rfl) hc (fun h α' ν' X1 hT hP => ?_)
  rw [← hA _ _ _ hP]
  refine ev_i2l 9 dL_placeOf_8 rfl ?_
  rw [J_i2l _ hz]
  refine tv_last 10 hT rfl hz dL_placeOf_9 rfl (fun h hT => ?_)
  refine ev_goto 21 dL_placeOf_10 (by decide) ?_
  refine tj_iconst 22 dL_placeOf_21 rfl ?_
  exact ev_ireturn ⟨rfl, _, _, _, hT, _, hP, rfl⟩ rfl dL_placeOf_22
set_option maxRecDepth 100000 in
set_option maxHeartbeats 4000000 in
theorem w_placeOf_x1 {g : Gt} {α : AL} {ν : Nat → Nat → Bool} {X : XM} {h : AH} (hT : TR g α ν X h) {p0 p1 : Int} (hc : Th g M_X11_placeOf 28 [.ref (α 0 0), .int (J p0), .int (J p1)] h "java/lang/IndexOutOfBoundsException") : Al g M_L_placeOf 29 [.ref (α 0 0), .int (J p0), .int (J p1), .ref (α 90 0)] h 1 6 (some (.int (J 1))) (fun a n x => a = α ∧ n = ν ∧ x = X) := by
  refine ct_of_evH rfl rfl (ls := [some (.ref (α 0 0)), some (.int (J p0)), some (.int (J p1)), some (.ref (α 90 0)), none]) rfl (Nat.le_of_ble_eq_true rfl) ?_
  show Ev g M_L_placeOf 29 0 [some (.ref (α 0 0)), some (.int (J p0)), some (.int (J p1)), some (.ref (α 90 0)), none] [] h (1 + 0) (6 + 0) (fun r h' => r = .inl (some (.int (J 1))) ∧ ∃ α' ν' X', TR g α' ν' X' h' ∧ (α' = α ∧ ν' = ν ∧ X' = X))
  refine ev_ald3 1 dL_placeOf_0 rfl ?_
  refine tj_iconst 2 dL_placeOf_1 rfl ?_
  refine ev_ald0 3 dL_placeOf_2 rfl ?_
  refine ev_ild1 4 dL_placeOf_3 rfl ?_
  refine ev_ild2 5 dL_placeOf_4 rfl ?_
  refine tz_V2 8 13 dL_placeOf_5 lkv_L_123 (tr0 hT) rfl rfl (by decide) (Nat.le_of_ble_eq_true rfl) hc ?_
  refine xv_catch (name := "java/lang/IndexOutOfBoundsException") [] [(0, 10, 17, 45)] rfl (fun z hz => by cases hz) ⟨by decide, by decide⟩ (by decide) (List.mem_of_getElem? (i := 700) (by decide +kernel)) (List.mem_of_getElem? (i := 734) (by decide +kernel)) (fun q => ?_)
  refine ev_ast4 15 dL_placeOf_13 rfl (by decide) rfl ?_
  refine tj_iconst 16 dL_placeOf_15 rfl ?_
  exact ev_ireturn ⟨rfl, _, _, _, hT, rfl, rfl, rfl⟩ rfl dL_placeOf_16
set_option maxRecDepth 100000 in
set_option maxHeartbeats 4000000 in
theorem w_placeOf_x2 {g : Gt} {α : AL} {ν : Nat → Nat → Bool} {X : XM} {h : AH} (hT : TR g α ν X h) {p0 p1 : Int} (hc : Th g M_X11_placeOf 28 [.ref (α 0 0), .int (J p0), .int (J p1)] h "java/util/NoSuchElementException") : Al g M_L_placeOf 29 [.ref (α 0 0), .int (J p0), .int (J p1), .ref (α 90 0)] h 1 6 (some (.int (J 2))) (fun a n x => a = α ∧ n = ν ∧ x = X) := by
  refine ct_of_evH rfl rfl (ls := [some (.ref (α 0 0)), some (.int (J p0)), some (.int (J p1)), some (.ref (α 90 0)), none]) rfl (Nat.le_of_ble_eq_true rfl) ?_
  show Ev g M_L_placeOf 29 0 [some (.ref (α 0 0)), some (.int (J p0)), some (.int (J p1)), some (.ref (α 90 0)), none] [] h (1 + 0) (6 + 0) (fun r h' => r = .inl (some (.int (J 2))) ∧ ∃ α' ν' X', TR g α' ν' X' h' ∧ (α' = α ∧ ν' = ν ∧ X' = X))
  refine ev_ald3 1 dL_placeOf_0 rfl ?_
  refine tj_iconst 2 dL_placeOf_1 rfl ?_
  refine ev_ald0 3 dL_placeOf_2 rfl ?_
  refine ev_ild1 4 dL_placeOf_3 rfl ?_
  refine ev_ild2 5 dL_placeOf_4 rfl ?_
  refine tz_V2 8 13 dL_placeOf_5 lkv_L_123 (tr0 hT) rfl rfl (by decide) (Nat.le_of_ble_eq_true rfl) hc ?_
  refine xv_catch (name := "java/util/NoSuchElementException") [(0, 10, 13, 24)] [] rfl (fun z hz => by rcases (by simpa using hz : z = (0, 10, 13, 24)) with rfl <;> first | exact ⟨by decide, "java/lang/IndexOutOfBoundsException", List.mem_of_getElem? (i := 700) (by decide +kernel), by decide +kernel⟩) ⟨by decide, by decide⟩ (by decide) (List.mem_of_getElem? (i := 867) (by decide +kernel)) (List.mem_of_getElem? (i := 878) (by decide +kernel)) (fun q => ?_)
  refine ev_ast4 19 dL_placeOf_17 rfl (by decide) rfl ?_
  refine tj_iconst 20 dL_placeOf_19 rfl ?_
  exact ev_ireturn ⟨rfl, _, _, _, hT, rfl, rfl, rfl⟩ rfl dL_placeOf_20
abbrev M_L_require : Mt := (yL_require, cL_require, 5, (Option.some Jvm.ClassFile.FieldType.int), [(0, 17, 20, 24), (0, 17, 24, 45)])
set_option maxRecDepth 100000 in
set_option maxHeartbeats 4000000 in
theorem w_require_ok {g : Gt} {α : AL} {ν : Nat → Nat → Bool} {X : XM} {h : AH} (hT : TR g α ν X h) {p0 p1 : Int} {q : Bool} {P : AL → (Nat → Nat → Bool) → XM → Prop} {mc ms : Nat} (hA : ∀ a n x, P a n x → a 90 0 = α 90 0) (hc : Al g M_X11_require 28 [.ref (α 0 0), .int (J p0), .int (J p1)] h mc ms (some (.int (J (bi q)))) P) : Al g M_L_require 29 [.ref (α 0 0), .int (J p0), .int (J p1), .ref (α 90 0)] h mc ms (some (.int (J 0))) (fun a n x => ∃ x0, P a n x0 ∧ x = xs x0 90 0 0 (bi q)) := by
  refine ct_of_evH rfl rfl (ls := [some (.ref (α 0 0)), some (.int (J p0)), some (.int (J p1)), some (.ref (α 90 0)), none]) rfl (Nat.le_of_ble_eq_true rfl) ?_
  show Ev g M_L_require 29 0 [some (.ref (α 0 0)), some (.int (J p0)), some (.int (J p1)), some (.ref (α 90 0)), none] [] h (mc + 0) (ms + 0) (fun r h' => r = .inl (some (.int (J 0))) ∧ ∃ α' ν' X', TR g α' ν' X' h' ∧ ∃ x0, P α' ν' x0 ∧ X' = xs x0 90 0 0 (bi q))
  refine ev_ald3 1 dL_require_0 rfl ?_
  refine tj_iconst 2 dL_require_1 rfl ?_
  refine ev_ald0 3 dL_require_2 rfl ?_
  refine ev_ild1 4 dL_require_3 rfl ?_
  refine ev_ild2 5 dL_require_4 rfl ?_
  refine ta_V2 8 13 dL_require_5 lkv_L_60 (tr0 hT) rfl rfl (by decide) (Nat.le_of_ble_eq_true rfl) hc (fun h α' ν' X1 hT hP => ?_)
  rw [← hA _ _ _ hP]
  cases q with
  | false =>
    refine tb_if_eq 15 11 dL_require_8 (by decide) rfl (fun c0 => ?_) (fun c0 => ?_)
    · skip
      refine ev_lconst (Int64.ofInt (bi false)) 16 dL_require_15 (by decide) rfl ?_
      refine tv_last 17 hT rfl (bi_R false) dL_require_16 rfl (fun h hT => ?_)
      refine ev_goto 28 dL_require_17 (by decide) ?_
      refine tj_iconst 29 dL_require_28 rfl ?_
      exact ev_ireturn ⟨rfl, _, _, _, hT, _, hP, rfl⟩ rfl dL_require_29
    · cases c0
  | true =>
    refine tb_if_eq 15 11 dL_require_8 (by decide) rfl (fun c0 => ?_) (fun c0 => ?_)
    · cases c0
    · skip
      refine ev_lconst (Int64.ofInt (bi true)) 12 dL_require_11 (by decide) rfl ?_
      refine ev_goto 16 dL_require_12 (by decide) ?_
      refine tv_last 17 hT rfl (bi_R true) dL_require_16 rfl (fun h hT => ?_)
      refine ev_goto 28 dL_require_17 (by decide) ?_
      refine tj_iconst 29 dL_require_28 rfl ?_
      exact ev_ireturn ⟨rfl, _, _, _, hT, _, hP, rfl⟩ rfl dL_require_29
set_option maxRecDepth 100000 in
set_option maxHeartbeats 4000000 in
theorem w_require_x1 {g : Gt} {α : AL} {ν : Nat → Nat → Bool} {X : XM} {h : AH} (hT : TR g α ν X h) {p0 p1 : Int} (hc : Th g M_X11_require 28 [.ref (α 0 0), .int (J p0), .int (J p1)] h "java/lang/IndexOutOfBoundsException") : Al g M_L_require 29 [.ref (α 0 0), .int (J p0), .int (J p1), .ref (α 90 0)] h 1 6 (some (.int (J 1))) (fun a n x => a = α ∧ n = ν ∧ x = X) := by
  refine ct_of_evH rfl rfl (ls := [some (.ref (α 0 0)), some (.int (J p0)), some (.int (J p1)), some (.ref (α 90 0)), none]) rfl (Nat.le_of_ble_eq_true rfl) ?_
  show Ev g M_L_require 29 0 [some (.ref (α 0 0)), some (.int (J p0)), some (.int (J p1)), some (.ref (α 90 0)), none] [] h (1 + 0) (6 + 0) (fun r h' => r = .inl (some (.int (J 1))) ∧ ∃ α' ν' X', TR g α' ν' X' h' ∧ (α' = α ∧ ν' = ν ∧ X' = X))
  refine ev_ald3 1 dL_require_0 rfl ?_
  refine tj_iconst 2 dL_require_1 rfl ?_
  refine ev_ald0 3 dL_require_2 rfl ?_
  refine ev_ild1 4 dL_require_3 rfl ?_
  refine ev_ild2 5 dL_require_4 rfl ?_
  refine tz_V2 8 13 dL_require_5 lkv_L_60 (tr0 hT) rfl rfl (by decide) (Nat.le_of_ble_eq_true rfl) hc ?_
  refine xv_catch (name := "java/lang/IndexOutOfBoundsException") [] [(0, 17, 24, 45)] rfl (fun z hz => by cases hz) ⟨by decide, by decide⟩ (by decide) (List.mem_of_getElem? (i := 700) (by decide +kernel)) (List.mem_of_getElem? (i := 734) (by decide +kernel)) (fun q => ?_)
  refine ev_ast4 22 dL_require_20 rfl (by decide) rfl ?_
  refine tj_iconst 23 dL_require_22 rfl ?_
  exact ev_ireturn ⟨rfl, _, _, _, hT, rfl, rfl, rfl⟩ rfl dL_require_23
set_option maxRecDepth 100000 in
set_option maxHeartbeats 4000000 in
theorem w_require_x2 {g : Gt} {α : AL} {ν : Nat → Nat → Bool} {X : XM} {h : AH} (hT : TR g α ν X h) {p0 p1 : Int} (hc : Th g M_X11_require 28 [.ref (α 0 0), .int (J p0), .int (J p1)] h "java/util/NoSuchElementException") : Al g M_L_require 29 [.ref (α 0 0), .int (J p0), .int (J p1), .ref (α 90 0)] h 1 6 (some (.int (J 2))) (fun a n x => a = α ∧ n = ν ∧ x = X) := by
  refine ct_of_evH rfl rfl (ls := [some (.ref (α 0 0)), some (.int (J p0)), some (.int (J p1)), some (.ref (α 90 0)), none]) rfl (Nat.le_of_ble_eq_true rfl) ?_
  show Ev g M_L_require 29 0 [some (.ref (α 0 0)), some (.int (J p0)), some (.int (J p1)), some (.ref (α 90 0)), none] [] h (1 + 0) (6 + 0) (fun r h' => r = .inl (some (.int (J 2))) ∧ ∃ α' ν' X', TR g α' ν' X' h' ∧ (α' = α ∧ ν' = ν ∧ X' = X))
  refine ev_ald3 1 dL_require_0 rfl ?_
  refine tj_iconst 2 dL_require_1 rfl ?_
  refine ev_ald0 3 dL_require_2 rfl ?_
  refine ev_ild1 4 dL_require_3 rfl ?_
  refine ev_ild2 5 dL_require_4 rfl ?_
  refine tz_V2 8 13 dL_require_5 lkv_L_60 (tr0 hT) rfl rfl (by decide) (Nat.le_of_ble_eq_true rfl) hc ?_
  refine xv_catch (name := "java/util/NoSuchElementException") [(0, 17, 20, 24)] [] rfl (fun z hz => by rcases (by simpa using hz : z = (0, 17, 20, 24)) with rfl <;> first | exact ⟨by decide, "java/lang/IndexOutOfBoundsException", List.mem_of_getElem? (i := 700) (by decide +kernel), by decide +kernel⟩) ⟨by decide, by decide⟩ (by decide) (List.mem_of_getElem? (i := 867) (by decide +kernel)) (List.mem_of_getElem? (i := 878) (by decide +kernel)) (fun q => ?_)
  refine ev_ast4 26 dL_require_24 rfl (by decide) rfl ?_
  refine tj_iconst 27 dL_require_26 rfl ?_
  exact ev_ireturn ⟨rfl, _, _, _, hT, rfl, rfl, rfl⟩ rfl dL_require_27
abbrev M_L_reserve : Mt := (yL_reserve, cL_reserve, 6, (Option.some Jvm.ClassFile.FieldType.int), [(0, 12, 15, 24), (0, 12, 19, 13), (0, 12, 23, 15)])
set_option maxRecDepth 100000 in
set_option maxHeartbeats 4000000 in
theorem w_reserve_ok {g : Gt} {α : AL} {ν : Nat → Nat → Bool} {X : XM} {h : AH} (hT : TR g α ν X h) {p0 p1 p2 : Int} {z : Int} (hz : R31 z) {P : AL → (Nat → Nat → Bool) → XM → Prop} {mc ms : Nat} (hA : ∀ a n x, P a n x → a 90 0 = α 90 0) (hc : Al g M_X11_reserve 28 [.ref (α 0 0), .int (J p0), .int (J p1), .int (J p2)] h mc ms (some (.int (J z))) P) : Al g M_L_reserve 29 [.ref (α 0 0), .int (J p0), .int (J p1), .int (J p2), .ref (α 90 0)] h mc ms (some (.int (J 0))) (fun a n x => ∃ x0, P a n x0 ∧ x = xs x0 90 0 0 z) := by
  refine ct_of_evH rfl rfl (ls := [some (.ref (α 0 0)), some (.int (J p0)), some (.int (J p1)), some (.int (J p2)), some (.ref (α 90 0)), none]) rfl (Nat.le_of_ble_eq_true rfl) ?_
  show Ev g M_L_reserve 29 0 [some (.ref (α 0 0)), some (.int (J p0)), some (.int (J p1)), some (.int (J p2)), some (.ref (α 90 0)), none] [] h (mc + 0) (ms + 0) (fun r h' => r = .inl (some (.int (J 0))) ∧ ∃ α' ν' X', TR g α' ν' X' h' ∧ ∃ x0, P α' ν' x0 ∧ X' = xs x0 90 0 0 z)
  refine ev_ald4 2 dL_reserve_0 rfl ?_
  refine tj_iconst 3 dL_reserve_2 rfl ?_
  refine ev_ald0 4 dL_reserve_3 rfl ?_
  refine ev_ild1 5 dL_reserve_4 rfl ?_
  refine ev_ild2 6 dL_reserve_5 rfl ?_
  refine ev_ild3 7 dL_reserve_6 rfl ?_
  refine ta_V3 10 13 dL_reserve_7 lkv_L_29 (tr0 hT) rfl rfl (by decide) (Nat.le_of_ble_eq_true rfl) hc (fun h α' ν' X1 hT hP => ?_)
  rw [← hA _ _ _ hP]
  refine ev_i2l 11 dL_reserve_10 rfl ?_
  rw [J_i2l _ hz]
  refine tv_last 12 hT rfl hz dL_reserve_11 rfl (fun h hT => ?_)
  refine ev_goto 27 dL_reserve_12 (by decide) ?_
  refine tj_iconst 28 dL_reserve_27 rfl ?_
  exact ev_ireturn ⟨rfl, _, _, _, hT, _, hP, rfl⟩ rfl dL_reserve_28
set_option maxRecDepth 100000 in
set_option maxHeartbeats 4000000 in
theorem w_reserve_x1 {g : Gt} {α : AL} {ν : Nat → Nat → Bool} {X : XM} {h : AH} (hT : TR g α ν X h) {p0 p1 p2 : Int} (hc : Th g M_X11_reserve 28 [.ref (α 0 0), .int (J p0), .int (J p1), .int (J p2)] h "java/lang/IndexOutOfBoundsException") : Al g M_L_reserve 29 [.ref (α 0 0), .int (J p0), .int (J p1), .int (J p2), .ref (α 90 0)] h 1 6 (some (.int (J 1))) (fun a n x => a = α ∧ n = ν ∧ x = X) := by
  refine ct_of_evH rfl rfl (ls := [some (.ref (α 0 0)), some (.int (J p0)), some (.int (J p1)), some (.int (J p2)), some (.ref (α 90 0)), none]) rfl (Nat.le_of_ble_eq_true rfl) ?_
  show Ev g M_L_reserve 29 0 [some (.ref (α 0 0)), some (.int (J p0)), some (.int (J p1)), some (.int (J p2)), some (.ref (α 90 0)), none] [] h (1 + 0) (6 + 0) (fun r h' => r = .inl (some (.int (J 1))) ∧ ∃ α' ν' X', TR g α' ν' X' h' ∧ (α' = α ∧ ν' = ν ∧ X' = X))
  refine ev_ald4 2 dL_reserve_0 rfl ?_
  refine tj_iconst 3 dL_reserve_2 rfl ?_
  refine ev_ald0 4 dL_reserve_3 rfl ?_
  refine ev_ild1 5 dL_reserve_4 rfl ?_
  refine ev_ild2 6 dL_reserve_5 rfl ?_
  refine ev_ild3 7 dL_reserve_6 rfl ?_
  refine tz_V3 10 13 dL_reserve_7 lkv_L_29 (tr0 hT) rfl rfl (by decide) (Nat.le_of_ble_eq_true rfl) hc ?_
  refine xv_catch (name := "java/lang/IndexOutOfBoundsException") [] [(0, 12, 19, 13), (0, 12, 23, 15)] rfl (fun z hz => by cases hz) ⟨by decide, by decide⟩ (by decide) (List.mem_of_getElem? (i := 700) (by decide +kernel)) (List.mem_of_getElem? (i := 734) (by decide +kernel)) (fun q => ?_)
  refine ev_ast5 17 dL_reserve_15 rfl (by decide) rfl ?_
  refine tj_iconst 18 dL_reserve_17 rfl ?_
  exact ev_ireturn ⟨rfl, _, _, _, hT, rfl, rfl, rfl⟩ rfl dL_reserve_18
set_option maxRecDepth 100000 in
set_option maxHeartbeats 4000000 in
theorem w_reserve_x2 {g : Gt} {α : AL} {ν : Nat → Nat → Bool} {X : XM} {h : AH} (hT : TR g α ν X h) {p0 p1 p2 : Int} (hc : Th g M_X11_reserve 28 [.ref (α 0 0), .int (J p0), .int (J p1), .int (J p2)] h "java/lang/IllegalArgumentException") : Al g M_L_reserve 29 [.ref (α 0 0), .int (J p0), .int (J p1), .int (J p2), .ref (α 90 0)] h 1 6 (some (.int (J 2))) (fun a n x => a = α ∧ n = ν ∧ x = X) := by
  refine ct_of_evH rfl rfl (ls := [some (.ref (α 0 0)), some (.int (J p0)), some (.int (J p1)), some (.int (J p2)), some (.ref (α 90 0)), none]) rfl (Nat.le_of_ble_eq_true rfl) ?_
  show Ev g M_L_reserve 29 0 [some (.ref (α 0 0)), some (.int (J p0)), some (.int (J p1)), some (.int (J p2)), some (.ref (α 90 0)), none] [] h (1 + 0) (6 + 0) (fun r h' => r = .inl (some (.int (J 2))) ∧ ∃ α' ν' X', TR g α' ν' X' h' ∧ (α' = α ∧ ν' = ν ∧ X' = X))
  refine ev_ald4 2 dL_reserve_0 rfl ?_
  refine tj_iconst 3 dL_reserve_2 rfl ?_
  refine ev_ald0 4 dL_reserve_3 rfl ?_
  refine ev_ild1 5 dL_reserve_4 rfl ?_
  refine ev_ild2 6 dL_reserve_5 rfl ?_
  refine ev_ild3 7 dL_reserve_6 rfl ?_
  refine tz_V3 10 13 dL_reserve_7 lkv_L_29 (tr0 hT) rfl rfl (by decide) (Nat.le_of_ble_eq_true rfl) hc ?_
  refine xv_catch (name := "java/lang/IllegalArgumentException") [(0, 12, 15, 24)] [(0, 12, 23, 15)] rfl (fun z hz => by rcases (by simpa using hz : z = (0, 12, 15, 24)) with rfl <;> first | exact ⟨by decide, "java/lang/IndexOutOfBoundsException", List.mem_of_getElem? (i := 700) (by decide +kernel), by decide +kernel⟩) ⟨by decide, by decide⟩ (by decide) (List.mem_of_getElem? (i := 493) (by decide +kernel)) (List.mem_of_getElem? (i := 504) (by decide +kernel)) (fun q => ?_)
  refine ev_ast5 21 dL_reserve_19 rfl (by decide) rfl ?_
  refine tj_iconst 22 dL_reserve_21 rfl ?_
  exact ev_ireturn ⟨rfl, _, _, _, hT, rfl, rfl, rfl⟩ rfl dL_reserve_22
set_option maxRecDepth 100000 in
set_option maxHeartbeats 4000000 in
theorem w_reserve_x3 {g : Gt} {α : AL} {ν : Nat → Nat → Bool} {X : XM} {h : AH} (hT : TR g α ν X h) {p0 p1 p2 : Int} (hc : Th g M_X11_reserve 28 [.ref (α 0 0), .int (J p0), .int (J p1), .int (J p2)] h "java/lang/IllegalStateException") : Al g M_L_reserve 29 [.ref (α 0 0), .int (J p0), .int (J p1), .int (J p2), .ref (α 90 0)] h 1 6 (some (.int (J 3))) (fun a n x => a = α ∧ n = ν ∧ x = X) := by
  refine ct_of_evH rfl rfl (ls := [some (.ref (α 0 0)), some (.int (J p0)), some (.int (J p1)), some (.int (J p2)), some (.ref (α 90 0)), none]) rfl (Nat.le_of_ble_eq_true rfl) ?_
  show Ev g M_L_reserve 29 0 [some (.ref (α 0 0)), some (.int (J p0)), some (.int (J p1)), some (.int (J p2)), some (.ref (α 90 0)), none] [] h (1 + 0) (6 + 0) (fun r h' => r = .inl (some (.int (J 3))) ∧ ∃ α' ν' X', TR g α' ν' X' h' ∧ (α' = α ∧ ν' = ν ∧ X' = X))
  refine ev_ald4 2 dL_reserve_0 rfl ?_
  refine tj_iconst 3 dL_reserve_2 rfl ?_
  refine ev_ald0 4 dL_reserve_3 rfl ?_
  refine ev_ild1 5 dL_reserve_4 rfl ?_
  refine ev_ild2 6 dL_reserve_5 rfl ?_
  refine ev_ild3 7 dL_reserve_6 rfl ?_
  refine tz_V3 10 13 dL_reserve_7 lkv_L_29 (tr0 hT) rfl rfl (by decide) (Nat.le_of_ble_eq_true rfl) hc ?_
  refine xv_catch (name := "java/lang/IllegalStateException") [(0, 12, 15, 24), (0, 12, 19, 13)] [] rfl (fun z hz => by rcases (by simpa using hz : z = (0, 12, 15, 24) ∨ z = (0, 12, 19, 13)) with rfl | rfl <;> first | exact ⟨by decide, "java/lang/IndexOutOfBoundsException", List.mem_of_getElem? (i := 700) (by decide +kernel), by decide +kernel⟩ | exact ⟨by decide, "java/lang/IllegalArgumentException", List.mem_of_getElem? (i := 493) (by decide +kernel), by decide +kernel⟩) ⟨by decide, by decide⟩ (by decide) (List.mem_of_getElem? (i := 494) (by decide +kernel)) (List.mem_of_getElem? (i := 576) (by decide +kernel)) (fun q => ?_)
  refine ev_ast5 25 dL_reserve_23 rfl (by decide) rfl ?_
  refine tj_iconst 26 dL_reserve_25 rfl ?_
  exact ev_ireturn ⟨rfl, _, _, _, hT, rfl, rfl, rfl⟩ rfl dL_reserve_26
abbrev M_L_ruleFor : Mt := (yL_ruleFor, cL_ruleFor, 5, (Option.some Jvm.ClassFile.FieldType.int), [(0, 10, 13, 24), (0, 10, 17, 45)])
set_option maxRecDepth 100000 in
set_option maxHeartbeats 4000000 in
theorem w_ruleFor_ok {g : Gt} {α : AL} {ν : Nat → Nat → Bool} {X : XM} {h : AH} (hT : TR g α ν X h) {p0 p1 : Int} {z : Int} (hz : R31 z) {P : AL → (Nat → Nat → Bool) → XM → Prop} {mc ms : Nat} (hA : ∀ a n x, P a n x → a 90 0 = α 90 0) (hc : Al g M_X11_ruleFor 28 [.ref (α 0 0), .int (J p0), .int (J p1)] h mc ms (some (.int (J z))) P) : Al g M_L_ruleFor 29 [.ref (α 0 0), .int (J p0), .int (J p1), .ref (α 90 0)] h mc ms (some (.int (J 0))) (fun a n x => ∃ x0, P a n x0 ∧ x = xs x0 90 0 0 z) := by
  refine ct_of_evH rfl rfl (ls := [some (.ref (α 0 0)), some (.int (J p0)), some (.int (J p1)), some (.ref (α 90 0)), none]) rfl (Nat.le_of_ble_eq_true rfl) ?_
  show Ev g M_L_ruleFor 29 0 [some (.ref (α 0 0)), some (.int (J p0)), some (.int (J p1)), some (.ref (α 90 0)), none] [] h (mc + 0) (ms + 0) (fun r h' => r = .inl (some (.int (J 0))) ∧ ∃ α' ν' X', TR g α' ν' X' h' ∧ ∃ x0, P α' ν' x0 ∧ X' = xs x0 90 0 0 z)
  refine ev_ald3 1 dL_ruleFor_0 rfl ?_
  refine tj_iconst 2 dL_ruleFor_1 rfl ?_
  refine ev_ald0 3 dL_ruleFor_2 rfl ?_
  refine ev_ild1 4 dL_ruleFor_3 rfl ?_
  refine ev_ild2 5 dL_ruleFor_4 rfl ?_
  refine ta_V2 8 13 dL_ruleFor_5 lkv_L_169 (tr0 hT) rfl rfl (by decide) (Nat.le_of_ble_eq_true rfl) hc (fun h α' ν' X1 hT hP => ?_)
  rw [← hA _ _ _ hP]
  refine ev_i2l 9 dL_ruleFor_8 rfl ?_
  rw [J_i2l _ hz]
  refine tv_last 10 hT rfl hz dL_ruleFor_9 rfl (fun h hT => ?_)
  refine ev_goto 21 dL_ruleFor_10 (by decide) ?_
  refine tj_iconst 22 dL_ruleFor_21 rfl ?_
  exact ev_ireturn ⟨rfl, _, _, _, hT, _, hP, rfl⟩ rfl dL_ruleFor_22
set_option maxRecDepth 100000 in
set_option maxHeartbeats 4000000 in
theorem w_ruleFor_x1 {g : Gt} {α : AL} {ν : Nat → Nat → Bool} {X : XM} {h : AH} (hT : TR g α ν X h) {p0 p1 : Int} (hc : Th g M_X11_ruleFor 28 [.ref (α 0 0), .int (J p0), .int (J p1)] h "java/lang/IndexOutOfBoundsException") : Al g M_L_ruleFor 29 [.ref (α 0 0), .int (J p0), .int (J p1), .ref (α 90 0)] h 1 6 (some (.int (J 1))) (fun a n x => a = α ∧ n = ν ∧ x = X) := by
  refine ct_of_evH rfl rfl (ls := [some (.ref (α 0 0)), some (.int (J p0)), some (.int (J p1)), some (.ref (α 90 0)), none]) rfl (Nat.le_of_ble_eq_true rfl) ?_
  show Ev g M_L_ruleFor 29 0 [some (.ref (α 0 0)), some (.int (J p0)), some (.int (J p1)), some (.ref (α 90 0)), none] [] h (1 + 0) (6 + 0) (fun r h' => r = .inl (some (.int (J 1))) ∧ ∃ α' ν' X', TR g α' ν' X' h' ∧ (α' = α ∧ ν' = ν ∧ X' = X))
  refine ev_ald3 1 dL_ruleFor_0 rfl ?_
  refine tj_iconst 2 dL_ruleFor_1 rfl ?_
  refine ev_ald0 3 dL_ruleFor_2 rfl ?_
  refine ev_ild1 4 dL_ruleFor_3 rfl ?_
  refine ev_ild2 5 dL_ruleFor_4 rfl ?_
  refine tz_V2 8 13 dL_ruleFor_5 lkv_L_169 (tr0 hT) rfl rfl (by decide) (Nat.le_of_ble_eq_true rfl) hc ?_
  refine xv_catch (name := "java/lang/IndexOutOfBoundsException") [] [(0, 10, 17, 45)] rfl (fun z hz => by cases hz) ⟨by decide, by decide⟩ (by decide) (List.mem_of_getElem? (i := 700) (by decide +kernel)) (List.mem_of_getElem? (i := 734) (by decide +kernel)) (fun q => ?_)
  refine ev_ast4 15 dL_ruleFor_13 rfl (by decide) rfl ?_
  refine tj_iconst 16 dL_ruleFor_15 rfl ?_
  exact ev_ireturn ⟨rfl, _, _, _, hT, rfl, rfl, rfl⟩ rfl dL_ruleFor_16
set_option maxRecDepth 100000 in
set_option maxHeartbeats 4000000 in
theorem w_ruleFor_x2 {g : Gt} {α : AL} {ν : Nat → Nat → Bool} {X : XM} {h : AH} (hT : TR g α ν X h) {p0 p1 : Int} (hc : Th g M_X11_ruleFor 28 [.ref (α 0 0), .int (J p0), .int (J p1)] h "java/util/NoSuchElementException") : Al g M_L_ruleFor 29 [.ref (α 0 0), .int (J p0), .int (J p1), .ref (α 90 0)] h 1 6 (some (.int (J 2))) (fun a n x => a = α ∧ n = ν ∧ x = X) := by
  refine ct_of_evH rfl rfl (ls := [some (.ref (α 0 0)), some (.int (J p0)), some (.int (J p1)), some (.ref (α 90 0)), none]) rfl (Nat.le_of_ble_eq_true rfl) ?_
  show Ev g M_L_ruleFor 29 0 [some (.ref (α 0 0)), some (.int (J p0)), some (.int (J p1)), some (.ref (α 90 0)), none] [] h (1 + 0) (6 + 0) (fun r h' => r = .inl (some (.int (J 2))) ∧ ∃ α' ν' X', TR g α' ν' X' h' ∧ (α' = α ∧ ν' = ν ∧ X' = X))
  refine ev_ald3 1 dL_ruleFor_0 rfl ?_
  refine tj_iconst 2 dL_ruleFor_1 rfl ?_
  refine ev_ald0 3 dL_ruleFor_2 rfl ?_
  refine ev_ild1 4 dL_ruleFor_3 rfl ?_
  refine ev_ild2 5 dL_ruleFor_4 rfl ?_
  refine tz_V2 8 13 dL_ruleFor_5 lkv_L_169 (tr0 hT) rfl rfl (by decide) (Nat.le_of_ble_eq_true rfl) hc ?_
  refine xv_catch (name := "java/util/NoSuchElementException") [(0, 10, 13, 24)] [] rfl (fun z hz => by rcases (by simpa using hz : z = (0, 10, 13, 24)) with rfl <;> first | exact ⟨by decide, "java/lang/IndexOutOfBoundsException", List.mem_of_getElem? (i := 700) (by decide +kernel), by decide +kernel⟩) ⟨by decide, by decide⟩ (by decide) (List.mem_of_getElem? (i := 867) (by decide +kernel)) (List.mem_of_getElem? (i := 878) (by decide +kernel)) (fun q => ?_)
  refine ev_ast4 19 dL_ruleFor_17 rfl (by decide) rfl ?_
  refine tj_iconst 20 dL_ruleFor_19 rfl ?_
  exact ev_ireturn ⟨rfl, _, _, _, hT, rfl, rfl, rfl⟩ rfl dL_ruleFor_20
abbrev M_L_setDegree : Mt := (yL_setDegree, cL_setDegree, 5, (Option.some Jvm.ClassFile.FieldType.int), [(0, 10, 13, 13)])
set_option maxRecDepth 100000 in
set_option maxHeartbeats 4000000 in
theorem w_setDegree_ok {g : Gt} {α : AL} {ν : Nat → Nat → Bool} {X : XM} {h : AH} (hT : TR g α ν X h) {p0 p1 : Int} {z : Int} (hz : R31 z) {P : AL → (Nat → Nat → Bool) → XM → Prop} {mc ms : Nat} (hA : ∀ a n x, P a n x → a 90 0 = α 90 0) (hc : Al g M_X11_setDegree 28 [.ref (α 0 0), .int (J p0), .int (J p1)] h mc ms (some (.int (J z))) P) : Al g M_L_setDegree 29 [.ref (α 0 0), .int (J p0), .int (J p1), .ref (α 90 0)] h mc ms (some (.int (J 0))) (fun a n x => ∃ x0, P a n x0 ∧ x = xs x0 90 0 0 z) := by
  refine ct_of_evH rfl rfl (ls := [some (.ref (α 0 0)), some (.int (J p0)), some (.int (J p1)), some (.ref (α 90 0)), none]) rfl (Nat.le_of_ble_eq_true rfl) ?_
  show Ev g M_L_setDegree 29 0 [some (.ref (α 0 0)), some (.int (J p0)), some (.int (J p1)), some (.ref (α 90 0)), none] [] h (mc + 0) (ms + 0) (fun r h' => r = .inl (some (.int (J 0))) ∧ ∃ α' ν' X', TR g α' ν' X' h' ∧ ∃ x0, P α' ν' x0 ∧ X' = xs x0 90 0 0 z)
  refine ev_ald3 1 dL_setDegree_0 rfl ?_
  refine tj_iconst 2 dL_setDegree_1 rfl ?_
  refine ev_ald0 3 dL_setDegree_2 rfl ?_
  refine ev_ild1 4 dL_setDegree_3 rfl ?_
  refine ev_ild2 5 dL_setDegree_4 rfl ?_
  refine ta_V2 8 13 dL_setDegree_5 lkv_L_172 (tr0 hT) rfl rfl (by decide) (Nat.le_of_ble_eq_true rfl) hc (fun h α' ν' X1 hT hP => ?_)
  rw [← hA _ _ _ hP]
  refine ev_i2l 9 dL_setDegree_8 rfl ?_
  rw [J_i2l _ hz]
  refine tv_last 10 hT rfl hz dL_setDegree_9 rfl (fun h hT => ?_)
  refine ev_goto 17 dL_setDegree_10 (by decide) ?_
  refine tj_iconst 18 dL_setDegree_17 rfl ?_
  exact ev_ireturn ⟨rfl, _, _, _, hT, _, hP, rfl⟩ rfl dL_setDegree_18
set_option maxRecDepth 100000 in
set_option maxHeartbeats 4000000 in
theorem w_setDegree_x1 {g : Gt} {α : AL} {ν : Nat → Nat → Bool} {X : XM} {h : AH} (hT : TR g α ν X h) {p0 p1 : Int} (hc : Th g M_X11_setDegree 28 [.ref (α 0 0), .int (J p0), .int (J p1)] h "java/lang/IllegalArgumentException") : Al g M_L_setDegree 29 [.ref (α 0 0), .int (J p0), .int (J p1), .ref (α 90 0)] h 1 6 (some (.int (J 1))) (fun a n x => a = α ∧ n = ν ∧ x = X) := by
  refine ct_of_evH rfl rfl (ls := [some (.ref (α 0 0)), some (.int (J p0)), some (.int (J p1)), some (.ref (α 90 0)), none]) rfl (Nat.le_of_ble_eq_true rfl) ?_
  show Ev g M_L_setDegree 29 0 [some (.ref (α 0 0)), some (.int (J p0)), some (.int (J p1)), some (.ref (α 90 0)), none] [] h (1 + 0) (6 + 0) (fun r h' => r = .inl (some (.int (J 1))) ∧ ∃ α' ν' X', TR g α' ν' X' h' ∧ (α' = α ∧ ν' = ν ∧ X' = X))
  refine ev_ald3 1 dL_setDegree_0 rfl ?_
  refine tj_iconst 2 dL_setDegree_1 rfl ?_
  refine ev_ald0 3 dL_setDegree_2 rfl ?_
  refine ev_ild1 4 dL_setDegree_3 rfl ?_
  refine ev_ild2 5 dL_setDegree_4 rfl ?_
  refine tz_V2 8 13 dL_setDegree_5 lkv_L_172 (tr0 hT) rfl rfl (by decide) (Nat.le_of_ble_eq_true rfl) hc ?_
  refine xv_catch (name := "java/lang/IllegalArgumentException") [] [] rfl (fun z hz => by cases hz) ⟨by decide, by decide⟩ (by decide) (List.mem_of_getElem? (i := 493) (by decide +kernel)) (List.mem_of_getElem? (i := 504) (by decide +kernel)) (fun q => ?_)
  refine ev_ast4 15 dL_setDegree_13 rfl (by decide) rfl ?_
  refine tj_iconst 16 dL_setDegree_15 rfl ?_
  exact ev_ireturn ⟨rfl, _, _, _, hT, rfl, rfl, rfl⟩ rfl dL_setDegree_16
abbrev M_L_share : Mt := (yL_share, cL_share, 4, (Option.some Jvm.ClassFile.FieldType.int), [(0, 9, 12, 24)])
abbrev M_L_swap : Mt := (yL_swap, cL_swap, 6, (Option.some Jvm.ClassFile.FieldType.int), [(0, 12, 15, 24), (0, 12, 19, 15), (0, 12, 23, 45), (0, 12, 27, 13), (0, 12, 31, 74), (0, 12, 35, 76)])
set_option maxRecDepth 100000 in
set_option maxHeartbeats 4000000 in
theorem w_swap_ok {g : Gt} {α : AL} {ν : Nat → Nat → Bool} {X : XM} {h : AH} (hT : TR g α ν X h) {p0 p1 p2 : Int} {z : Int} (hz : R31 z) {P : AL → (Nat → Nat → Bool) → XM → Prop} {mc ms : Nat} (hA : ∀ a n x, P a n x → a 90 0 = α 90 0) (hc : Al g M_X11_swap 28 [.ref (α 0 0), .int (J p0), .int (J p1), .int (J p2)] h mc ms (some (.int (J z))) P) : Al g M_L_swap 29 [.ref (α 0 0), .int (J p0), .int (J p1), .int (J p2), .ref (α 90 0)] h mc ms (some (.int (J 0))) (fun a n x => ∃ x0, P a n x0 ∧ x = xs x0 90 0 0 z) := by
  refine ct_of_evH rfl rfl (ls := [some (.ref (α 0 0)), some (.int (J p0)), some (.int (J p1)), some (.int (J p2)), some (.ref (α 90 0)), none]) rfl (Nat.le_of_ble_eq_true rfl) ?_
  show Ev g M_L_swap 29 0 [some (.ref (α 0 0)), some (.int (J p0)), some (.int (J p1)), some (.int (J p2)), some (.ref (α 90 0)), none] [] h (mc + 0) (ms + 0) (fun r h' => r = .inl (some (.int (J 0))) ∧ ∃ α' ν' X', TR g α' ν' X' h' ∧ ∃ x0, P α' ν' x0 ∧ X' = xs x0 90 0 0 z)
  refine ev_ald4 2 dL_swap_0 rfl ?_
  refine tj_iconst 3 dL_swap_2 rfl ?_
  refine ev_ald0 4 dL_swap_3 rfl ?_
  refine ev_ild1 5 dL_swap_4 rfl ?_
  refine ev_ild2 6 dL_swap_5 rfl ?_
  refine ev_ild3 7 dL_swap_6 rfl ?_
  refine ta_V3 10 13 dL_swap_7 lkv_L_84 (tr0 hT) rfl rfl (by decide) (Nat.le_of_ble_eq_true rfl) hc (fun h α' ν' X1 hT hP => ?_)
  rw [← hA _ _ _ hP]
  refine ev_i2l 11 dL_swap_10 rfl ?_
  rw [J_i2l _ hz]
  refine tv_last 12 hT rfl hz dL_swap_11 rfl (fun h hT => ?_)
  refine ev_goto 40 dL_swap_12 (by decide) ?_
  refine tj_iconst 41 dL_swap_40 rfl ?_
  exact ev_ireturn ⟨rfl, _, _, _, hT, _, hP, rfl⟩ rfl dL_swap_41
set_option maxRecDepth 100000 in
set_option maxHeartbeats 4000000 in
theorem w_swap_x1 {g : Gt} {α : AL} {ν : Nat → Nat → Bool} {X : XM} {h : AH} (hT : TR g α ν X h) {p0 p1 p2 : Int} (hc : Th g M_X11_swap 28 [.ref (α 0 0), .int (J p0), .int (J p1), .int (J p2)] h "java/lang/IndexOutOfBoundsException") : Al g M_L_swap 29 [.ref (α 0 0), .int (J p0), .int (J p1), .int (J p2), .ref (α 90 0)] h 1 6 (some (.int (J 1))) (fun a n x => a = α ∧ n = ν ∧ x = X) := by
  refine ct_of_evH rfl rfl (ls := [some (.ref (α 0 0)), some (.int (J p0)), some (.int (J p1)), some (.int (J p2)), some (.ref (α 90 0)), none]) rfl (Nat.le_of_ble_eq_true rfl) ?_
  show Ev g M_L_swap 29 0 [some (.ref (α 0 0)), some (.int (J p0)), some (.int (J p1)), some (.int (J p2)), some (.ref (α 90 0)), none] [] h (1 + 0) (6 + 0) (fun r h' => r = .inl (some (.int (J 1))) ∧ ∃ α' ν' X', TR g α' ν' X' h' ∧ (α' = α ∧ ν' = ν ∧ X' = X))
  refine ev_ald4 2 dL_swap_0 rfl ?_
  refine tj_iconst 3 dL_swap_2 rfl ?_
  refine ev_ald0 4 dL_swap_3 rfl ?_
  refine ev_ild1 5 dL_swap_4 rfl ?_
  refine ev_ild2 6 dL_swap_5 rfl ?_
  refine ev_ild3 7 dL_swap_6 rfl ?_
  refine tz_V3 10 13 dL_swap_7 lkv_L_84 (tr0 hT) rfl rfl (by decide) (Nat.le_of_ble_eq_true rfl) hc ?_
  refine xv_catch (name := "java/lang/IndexOutOfBoundsException") [] [(0, 12, 19, 15), (0, 12, 23, 45), (0, 12, 27, 13), (0, 12, 31, 74), (0, 12, 35, 76)] rfl (fun z hz => by cases hz) ⟨by decide, by decide⟩ (by decide) (List.mem_of_getElem? (i := 700) (by decide +kernel)) (List.mem_of_getElem? (i := 734) (by decide +kernel)) (fun q => ?_)
  refine ev_ast5 17 dL_swap_15 rfl (by decide) rfl ?_
  refine tj_iconst 18 dL_swap_17 rfl ?_
  exact ev_ireturn ⟨rfl, _, _, _, hT, rfl, rfl, rfl⟩ rfl dL_swap_18
set_option maxRecDepth 100000 in
set_option maxHeartbeats 4000000 in
theorem w_swap_x2 {g : Gt} {α : AL} {ν : Nat → Nat → Bool} {X : XM} {h : AH} (hT : TR g α ν X h) {p0 p1 p2 : Int} (hc : Th g M_X11_swap 28 [.ref (α 0 0), .int (J p0), .int (J p1), .int (J p2)] h "java/lang/IllegalStateException") : Al g M_L_swap 29 [.ref (α 0 0), .int (J p0), .int (J p1), .int (J p2), .ref (α 90 0)] h 1 6 (some (.int (J 2))) (fun a n x => a = α ∧ n = ν ∧ x = X) := by
  refine ct_of_evH rfl rfl (ls := [some (.ref (α 0 0)), some (.int (J p0)), some (.int (J p1)), some (.int (J p2)), some (.ref (α 90 0)), none]) rfl (Nat.le_of_ble_eq_true rfl) ?_
  show Ev g M_L_swap 29 0 [some (.ref (α 0 0)), some (.int (J p0)), some (.int (J p1)), some (.int (J p2)), some (.ref (α 90 0)), none] [] h (1 + 0) (6 + 0) (fun r h' => r = .inl (some (.int (J 2))) ∧ ∃ α' ν' X', TR g α' ν' X' h' ∧ (α' = α ∧ ν' = ν ∧ X' = X))
  refine ev_ald4 2 dL_swap_0 rfl ?_
  refine tj_iconst 3 dL_swap_2 rfl ?_
  refine ev_ald0 4 dL_swap_3 rfl ?_
  refine ev_ild1 5 dL_swap_4 rfl ?_
  refine ev_ild2 6 dL_swap_5 rfl ?_
  refine ev_ild3 7 dL_swap_6 rfl ?_
  refine tz_V3 10 13 dL_swap_7 lkv_L_84 (tr0 hT) rfl rfl (by decide) (Nat.le_of_ble_eq_true rfl) hc ?_
  refine xv_catch (name := "java/lang/IllegalStateException") [(0, 12, 15, 24)] [(0, 12, 23, 45), (0, 12, 27, 13), (0, 12, 31, 74), (0, 12, 35, 76)] rfl (fun z hz => by rcases (by simpa using hz : z = (0, 12, 15, 24)) with rfl <;> first | exact ⟨by decide, "java/lang/IndexOutOfBoundsException", List.mem_of_getElem? (i := 700) (by decide +kernel), by decide +kernel⟩) ⟨by decide, by decide⟩ (by decide) (List.mem_of_getElem? (i := 494) (by decide +kernel)) (List.mem_of_getElem? (i := 576) (by decide +kernel)) (fun q => ?_)
  refine ev_ast5 21 dL_swap_19 rfl (by decide) rfl ?_
  refine tj_iconst 22 dL_swap_21 rfl ?_
  exact ev_ireturn ⟨rfl, _, _, _, hT, rfl, rfl, rfl⟩ rfl dL_swap_22
set_option maxRecDepth 100000 in
set_option maxHeartbeats 4000000 in
theorem w_swap_x3 {g : Gt} {α : AL} {ν : Nat → Nat → Bool} {X : XM} {h : AH} (hT : TR g α ν X h) {p0 p1 p2 : Int} (hc : Th g M_X11_swap 28 [.ref (α 0 0), .int (J p0), .int (J p1), .int (J p2)] h "java/util/NoSuchElementException") : Al g M_L_swap 29 [.ref (α 0 0), .int (J p0), .int (J p1), .int (J p2), .ref (α 90 0)] h 1 6 (some (.int (J 3))) (fun a n x => a = α ∧ n = ν ∧ x = X) := by
  refine ct_of_evH rfl rfl (ls := [some (.ref (α 0 0)), some (.int (J p0)), some (.int (J p1)), some (.int (J p2)), some (.ref (α 90 0)), none]) rfl (Nat.le_of_ble_eq_true rfl) ?_
  show Ev g M_L_swap 29 0 [some (.ref (α 0 0)), some (.int (J p0)), some (.int (J p1)), some (.int (J p2)), some (.ref (α 90 0)), none] [] h (1 + 0) (6 + 0) (fun r h' => r = .inl (some (.int (J 3))) ∧ ∃ α' ν' X', TR g α' ν' X' h' ∧ (α' = α ∧ ν' = ν ∧ X' = X))
  refine ev_ald4 2 dL_swap_0 rfl ?_
  refine tj_iconst 3 dL_swap_2 rfl ?_
  refine ev_ald0 4 dL_swap_3 rfl ?_
  refine ev_ild1 5 dL_swap_4 rfl ?_
  refine ev_ild2 6 dL_swap_5 rfl ?_
  refine ev_ild3 7 dL_swap_6 rfl ?_
  refine tz_V3 10 13 dL_swap_7 lkv_L_84 (tr0 hT) rfl rfl (by decide) (Nat.le_of_ble_eq_true rfl) hc ?_
  refine xv_catch (name := "java/util/NoSuchElementException") [(0, 12, 15, 24), (0, 12, 19, 15)] [(0, 12, 27, 13), (0, 12, 31, 74), (0, 12, 35, 76)] rfl (fun z hz => by rcases (by simpa using hz : z = (0, 12, 15, 24) ∨ z = (0, 12, 19, 15)) with rfl | rfl <;> first | exact ⟨by decide, "java/lang/IndexOutOfBoundsException", List.mem_of_getElem? (i := 700) (by decide +kernel), by decide +kernel⟩ | exact ⟨by decide, "java/lang/IllegalStateException", List.mem_of_getElem? (i := 494) (by decide +kernel), by decide +kernel⟩) ⟨by decide, by decide⟩ (by decide) (List.mem_of_getElem? (i := 867) (by decide +kernel)) (List.mem_of_getElem? (i := 878) (by decide +kernel)) (fun q => ?_)
  refine ev_ast5 25 dL_swap_23 rfl (by decide) rfl ?_
  refine tj_iconst 26 dL_swap_25 rfl ?_
  exact ev_ireturn ⟨rfl, _, _, _, hT, rfl, rfl, rfl⟩ rfl dL_swap_26
set_option maxRecDepth 100000 in
set_option maxHeartbeats 4000000 in
theorem w_swap_x4 {g : Gt} {α : AL} {ν : Nat → Nat → Bool} {X : XM} {h : AH} (hT : TR g α ν X h) {p0 p1 p2 : Int} (hc : Th g M_X11_swap 28 [.ref (α 0 0), .int (J p0), .int (J p1), .int (J p2)] h "java/lang/IllegalArgumentException") : Al g M_L_swap 29 [.ref (α 0 0), .int (J p0), .int (J p1), .int (J p2), .ref (α 90 0)] h 1 6 (some (.int (J 4))) (fun a n x => a = α ∧ n = ν ∧ x = X) := by
  refine ct_of_evH rfl rfl (ls := [some (.ref (α 0 0)), some (.int (J p0)), some (.int (J p1)), some (.int (J p2)), some (.ref (α 90 0)), none]) rfl (Nat.le_of_ble_eq_true rfl) ?_
  show Ev g M_L_swap 29 0 [some (.ref (α 0 0)), some (.int (J p0)), some (.int (J p1)), some (.int (J p2)), some (.ref (α 90 0)), none] [] h (1 + 0) (6 + 0) (fun r h' => r = .inl (some (.int (J 4))) ∧ ∃ α' ν' X', TR g α' ν' X' h' ∧ (α' = α ∧ ν' = ν ∧ X' = X))
  refine ev_ald4 2 dL_swap_0 rfl ?_
  refine tj_iconst 3 dL_swap_2 rfl ?_
  refine ev_ald0 4 dL_swap_3 rfl ?_
  refine ev_ild1 5 dL_swap_4 rfl ?_
  refine ev_ild2 6 dL_swap_5 rfl ?_
  refine ev_ild3 7 dL_swap_6 rfl ?_
  refine tz_V3 10 13 dL_swap_7 lkv_L_84 (tr0 hT) rfl rfl (by decide) (Nat.le_of_ble_eq_true rfl) hc ?_
  refine xv_catch (name := "java/lang/IllegalArgumentException") [(0, 12, 15, 24), (0, 12, 19, 15), (0, 12, 23, 45)] [(0, 12, 31, 74), (0, 12, 35, 76)] rfl (fun z hz => by rcases (by simpa using hz : z = (0, 12, 15, 24) ∨ z = (0, 12, 19, 15) ∨ z = (0, 12, 23, 45)) with rfl | rfl | rfl <;> first | exact ⟨by decide, "java/lang/IndexOutOfBoundsException", List.mem_of_getElem? (i := 700) (by decide +kernel), by decide +kernel⟩ | exact ⟨by decide, "java/lang/IllegalStateException", List.mem_of_getElem? (i := 494) (by decide +kernel), by decide +kernel⟩ | exact ⟨by decide, "java/util/NoSuchElementException", List.mem_of_getElem? (i := 867) (by decide +kernel), by decide +kernel⟩) ⟨by decide, by decide⟩ (by decide) (List.mem_of_getElem? (i := 493) (by decide +kernel)) (List.mem_of_getElem? (i := 504) (by decide +kernel)) (fun q => ?_)
  refine ev_ast5 29 dL_swap_27 rfl (by decide) rfl ?_
  refine tj_iconst 30 dL_swap_29 rfl ?_
  exact ev_ireturn ⟨rfl, _, _, _, hT, rfl, rfl, rfl⟩ rfl dL_swap_30
set_option maxRecDepth 100000 in
set_option maxHeartbeats 4000000 in
theorem w_swap_x5 {g : Gt} {α : AL} {ν : Nat → Nat → Bool} {X : XM} {h : AH} (hT : TR g α ν X h) {p0 p1 p2 : Int} (hc : Th g M_X11_swap 28 [.ref (α 0 0), .int (J p0), .int (J p1), .int (J p2)] h "java/lang/UnsupportedOperationException") : Al g M_L_swap 29 [.ref (α 0 0), .int (J p0), .int (J p1), .int (J p2), .ref (α 90 0)] h 1 6 (some (.int (J 5))) (fun a n x => a = α ∧ n = ν ∧ x = X) := by
  refine ct_of_evH rfl rfl (ls := [some (.ref (α 0 0)), some (.int (J p0)), some (.int (J p1)), some (.int (J p2)), some (.ref (α 90 0)), none]) rfl (Nat.le_of_ble_eq_true rfl) ?_
  show Ev g M_L_swap 29 0 [some (.ref (α 0 0)), some (.int (J p0)), some (.int (J p1)), some (.int (J p2)), some (.ref (α 90 0)), none] [] h (1 + 0) (6 + 0) (fun r h' => r = .inl (some (.int (J 5))) ∧ ∃ α' ν' X', TR g α' ν' X' h' ∧ (α' = α ∧ ν' = ν ∧ X' = X))
  refine ev_ald4 2 dL_swap_0 rfl ?_
  refine tj_iconst 3 dL_swap_2 rfl ?_
  refine ev_ald0 4 dL_swap_3 rfl ?_
  refine ev_ild1 5 dL_swap_4 rfl ?_
  refine ev_ild2 6 dL_swap_5 rfl ?_
  refine ev_ild3 7 dL_swap_6 rfl ?_
  refine tz_V3 10 13 dL_swap_7 lkv_L_84 (tr0 hT) rfl rfl (by decide) (Nat.le_of_ble_eq_true rfl) hc ?_
  refine xv_catch (name := "java/lang/UnsupportedOperationException") [(0, 12, 15, 24), (0, 12, 19, 15), (0, 12, 23, 45), (0, 12, 27, 13)] [(0, 12, 35, 76)] rfl (fun z hz => by rcases (by simpa using hz : z = (0, 12, 15, 24) ∨ z = (0, 12, 19, 15) ∨ z = (0, 12, 23, 45) ∨ z = (0, 12, 27, 13)) with rfl | rfl | rfl | rfl <;> first | exact ⟨by decide, "java/lang/IndexOutOfBoundsException", List.mem_of_getElem? (i := 700) (by decide +kernel), by decide +kernel⟩ | exact ⟨by decide, "java/lang/IllegalStateException", List.mem_of_getElem? (i := 494) (by decide +kernel), by decide +kernel⟩ | exact ⟨by decide, "java/util/NoSuchElementException", List.mem_of_getElem? (i := 867) (by decide +kernel), by decide +kernel⟩ | exact ⟨by decide, "java/lang/IllegalArgumentException", List.mem_of_getElem? (i := 493) (by decide +kernel), by decide +kernel⟩) ⟨by decide, by decide⟩ (by decide) (List.mem_of_getElem? (i := 985) (by decide +kernel)) (List.mem_of_getElem? (i := 1018) (by decide +kernel)) (fun q => ?_)
  refine ev_ast5 33 dL_swap_31 rfl (by decide) rfl ?_
  refine tj_iconst 34 dL_swap_33 rfl ?_
  exact ev_ireturn ⟨rfl, _, _, _, hT, rfl, rfl, rfl⟩ rfl dL_swap_34
set_option maxRecDepth 100000 in
set_option maxHeartbeats 4000000 in
theorem w_swap_x6 {g : Gt} {α : AL} {ν : Nat → Nat → Bool} {X : XM} {h : AH} (hT : TR g α ν X h) {p0 p1 p2 : Int} (hc : Th g M_X11_swap 28 [.ref (α 0 0), .int (J p0), .int (J p1), .int (J p2)] h "java/lang/ArithmeticException") : Al g M_L_swap 29 [.ref (α 0 0), .int (J p0), .int (J p1), .int (J p2), .ref (α 90 0)] h 1 6 (some (.int (J 6))) (fun a n x => a = α ∧ n = ν ∧ x = X) := by
  refine ct_of_evH rfl rfl (ls := [some (.ref (α 0 0)), some (.int (J p0)), some (.int (J p1)), some (.int (J p2)), some (.ref (α 90 0)), none]) rfl (Nat.le_of_ble_eq_true rfl) ?_
  show Ev g M_L_swap 29 0 [some (.ref (α 0 0)), some (.int (J p0)), some (.int (J p1)), some (.int (J p2)), some (.ref (α 90 0)), none] [] h (1 + 0) (6 + 0) (fun r h' => r = .inl (some (.int (J 6))) ∧ ∃ α' ν' X', TR g α' ν' X' h' ∧ (α' = α ∧ ν' = ν ∧ X' = X))
  refine ev_ald4 2 dL_swap_0 rfl ?_
  refine tj_iconst 3 dL_swap_2 rfl ?_
  refine ev_ald0 4 dL_swap_3 rfl ?_
  refine ev_ild1 5 dL_swap_4 rfl ?_
  refine ev_ild2 6 dL_swap_5 rfl ?_
  refine ev_ild3 7 dL_swap_6 rfl ?_
  refine tz_V3 10 13 dL_swap_7 lkv_L_84 (tr0 hT) rfl rfl (by decide) (Nat.le_of_ble_eq_true rfl) hc ?_
  refine xv_catch (name := "java/lang/ArithmeticException") [(0, 12, 15, 24), (0, 12, 19, 15), (0, 12, 23, 45), (0, 12, 27, 13), (0, 12, 31, 74)] [] rfl (fun z hz => by rcases (by simpa using hz : z = (0, 12, 15, 24) ∨ z = (0, 12, 19, 15) ∨ z = (0, 12, 23, 45) ∨ z = (0, 12, 27, 13) ∨ z = (0, 12, 31, 74)) with rfl | rfl | rfl | rfl | rfl <;> first | exact ⟨by decide, "java/lang/IndexOutOfBoundsException", List.mem_of_getElem? (i := 700) (by decide +kernel), by decide +kernel⟩ | exact ⟨by decide, "java/lang/IllegalStateException", List.mem_of_getElem? (i := 494) (by decide +kernel), by decide +kernel⟩ | exact ⟨by decide, "java/util/NoSuchElementException", List.mem_of_getElem? (i := 867) (by decide +kernel), by decide +kernel⟩ | exact ⟨by decide, "java/lang/IllegalArgumentException", List.mem_of_getElem? (i := 493) (by decide +kernel), by decide +kernel⟩ | exact ⟨by decide, "java/lang/UnsupportedOperationException", List.mem_of_getElem? (i := 985) (by decide +kernel), by decide +kernel⟩) ⟨by decide, by decide⟩ (by decide) (List.mem_of_getElem? (i := 986) (by decide +kernel)) (List.mem_of_getElem? (i := 998) (by decide +kernel)) (fun q => ?_)
  refine ev_ast5 37 dL_swap_35 rfl (by decide) rfl ?_
  refine tj_bipush 39 dL_swap_37 (by decide) rfl ?_
  exact ev_ireturn ⟨rfl, _, _, _, hT, rfl, rfl, rfl⟩ rfl dL_swap_39
abbrev M_L_termsTo : Mt := (yL_termsTo, cL_termsTo, 4, (Option.some Jvm.ClassFile.FieldType.int), [(0, 9, 12, 24), (0, 9, 15, 45)])
set_option maxRecDepth 100000 in
set_option maxHeartbeats 4000000 in
theorem w_termsTo_ok {g : Gt} {α : AL} {ν : Nat → Nat → Bool} {X : XM} {h : AH} (hT : TR g α ν X h) {p0 : Int} {z : Int} (hz : R31 z) {P : AL → (Nat → Nat → Bool) → XM → Prop} {mc ms : Nat} (hA : ∀ a n x, P a n x → a 90 0 = α 90 0) (hc : Al g M_X11_termsTo 28 [.ref (α 0 0), .int (J p0)] h mc ms (some (.int (J z))) P) : Al g M_L_termsTo 29 [.ref (α 0 0), .int (J p0), .ref (α 90 0)] h mc ms (some (.int (J 0))) (fun a n x => ∃ x0, P a n x0 ∧ x = xs x0 90 0 0 z) := by
  refine ct_of_evH rfl rfl (ls := [some (.ref (α 0 0)), some (.int (J p0)), some (.ref (α 90 0)), none]) rfl (Nat.le_of_ble_eq_true rfl) ?_
  show Ev g M_L_termsTo 29 0 [some (.ref (α 0 0)), some (.int (J p0)), some (.ref (α 90 0)), none] [] h (mc + 0) (ms + 0) (fun r h' => r = .inl (some (.int (J 0))) ∧ ∃ α' ν' X', TR g α' ν' X' h' ∧ ∃ x0, P α' ν' x0 ∧ X' = xs x0 90 0 0 z)
  refine ev_ald2 1 dL_termsTo_0 rfl ?_
  refine tj_iconst 2 dL_termsTo_1 rfl ?_
  refine ev_ald0 3 dL_termsTo_2 rfl ?_
  refine ev_ild1 4 dL_termsTo_3 rfl ?_
  refine ta_V1 7 13 dL_termsTo_4 lkv_L_139 (tr0 hT) rfl rfl (by decide) (Nat.le_of_ble_eq_true rfl) hc (fun h α' ν' X1 hT hP => ?_)
  rw [← hA _ _ _ hP]
  refine ev_i2l 8 dL_termsTo_7 rfl ?_
  rw [J_i2l _ hz]
  refine tv_last 9 hT rfl hz dL_termsTo_8 rfl (fun h hT => ?_)
  refine ev_goto 18 dL_termsTo_9 (by decide) ?_
  refine tj_iconst 19 dL_termsTo_18 rfl ?_
  exact ev_ireturn ⟨rfl, _, _, _, hT, _, hP, rfl⟩ rfl dL_termsTo_19
set_option maxRecDepth 100000 in
set_option maxHeartbeats 4000000 in
theorem w_termsTo_x1 {g : Gt} {α : AL} {ν : Nat → Nat → Bool} {X : XM} {h : AH} (hT : TR g α ν X h) {p0 : Int} (hc : Th g M_X11_termsTo 28 [.ref (α 0 0), .int (J p0)] h "java/lang/IndexOutOfBoundsException") : Al g M_L_termsTo 29 [.ref (α 0 0), .int (J p0), .ref (α 90 0)] h 1 6 (some (.int (J 1))) (fun a n x => a = α ∧ n = ν ∧ x = X) := by
  refine ct_of_evH rfl rfl (ls := [some (.ref (α 0 0)), some (.int (J p0)), some (.ref (α 90 0)), none]) rfl (Nat.le_of_ble_eq_true rfl) ?_
  show Ev g M_L_termsTo 29 0 [some (.ref (α 0 0)), some (.int (J p0)), some (.ref (α 90 0)), none] [] h (1 + 0) (6 + 0) (fun r h' => r = .inl (some (.int (J 1))) ∧ ∃ α' ν' X', TR g α' ν' X' h' ∧ (α' = α ∧ ν' = ν ∧ X' = X))
  refine ev_ald2 1 dL_termsTo_0 rfl ?_
  refine tj_iconst 2 dL_termsTo_1 rfl ?_
  refine ev_ald0 3 dL_termsTo_2 rfl ?_
  refine ev_ild1 4 dL_termsTo_3 rfl ?_
  refine tz_V1 7 13 dL_termsTo_4 lkv_L_139 (tr0 hT) rfl rfl (by decide) (Nat.le_of_ble_eq_true rfl) hc ?_
  refine xv_catch (name := "java/lang/IndexOutOfBoundsException") [] [(0, 9, 15, 45)] rfl (fun z hz => by cases hz) ⟨by decide, by decide⟩ (by decide) (List.mem_of_getElem? (i := 700) (by decide +kernel)) (List.mem_of_getElem? (i := 734) (by decide +kernel)) (fun q => ?_)
  refine ev_ast3 13 dL_termsTo_12 rfl (by decide) rfl ?_
  refine tj_iconst 14 dL_termsTo_13 rfl ?_
  exact ev_ireturn ⟨rfl, _, _, _, hT, rfl, rfl, rfl⟩ rfl dL_termsTo_14
set_option maxRecDepth 100000 in
set_option maxHeartbeats 4000000 in
theorem w_termsTo_x2 {g : Gt} {α : AL} {ν : Nat → Nat → Bool} {X : XM} {h : AH} (hT : TR g α ν X h) {p0 : Int} (hc : Th g M_X11_termsTo 28 [.ref (α 0 0), .int (J p0)] h "java/util/NoSuchElementException") : Al g M_L_termsTo 29 [.ref (α 0 0), .int (J p0), .ref (α 90 0)] h 1 6 (some (.int (J 2))) (fun a n x => a = α ∧ n = ν ∧ x = X) := by
  refine ct_of_evH rfl rfl (ls := [some (.ref (α 0 0)), some (.int (J p0)), some (.ref (α 90 0)), none]) rfl (Nat.le_of_ble_eq_true rfl) ?_
  show Ev g M_L_termsTo 29 0 [some (.ref (α 0 0)), some (.int (J p0)), some (.ref (α 90 0)), none] [] h (1 + 0) (6 + 0) (fun r h' => r = .inl (some (.int (J 2))) ∧ ∃ α' ν' X', TR g α' ν' X' h' ∧ (α' = α ∧ ν' = ν ∧ X' = X))
  refine ev_ald2 1 dL_termsTo_0 rfl ?_
  refine tj_iconst 2 dL_termsTo_1 rfl ?_
  refine ev_ald0 3 dL_termsTo_2 rfl ?_
  refine ev_ild1 4 dL_termsTo_3 rfl ?_
  refine tz_V1 7 13 dL_termsTo_4 lkv_L_139 (tr0 hT) rfl rfl (by decide) (Nat.le_of_ble_eq_true rfl) hc ?_
  refine xv_catch (name := "java/util/NoSuchElementException") [(0, 9, 12, 24)] [] rfl (fun z hz => by rcases (by simpa using hz : z = (0, 9, 12, 24)) with rfl <;> first | exact ⟨by decide, "java/lang/IndexOutOfBoundsException", List.mem_of_getElem? (i := 700) (by decide +kernel), by decide +kernel⟩) ⟨by decide, by decide⟩ (by decide) (List.mem_of_getElem? (i := 867) (by decide +kernel)) (List.mem_of_getElem? (i := 878) (by decide +kernel)) (fun q => ?_)
  refine ev_ast3 16 dL_termsTo_15 rfl (by decide) rfl ?_
  refine tj_iconst 17 dL_termsTo_16 rfl ?_
  exact ev_ireturn ⟨rfl, _, _, _, hT, rfl, rfl, rfl⟩ rfl dL_termsTo_17
abbrev M_L_togetherFormula : Mt := (yL_togetherFormula, cL_togetherFormula, 4, (Option.some Jvm.ClassFile.FieldType.int), [(0, 9, 12, 24), (0, 9, 15, 15)])
set_option maxRecDepth 100000 in
set_option maxHeartbeats 4000000 in
theorem w_togetherFormula_ok {g : Gt} {α : AL} {ν : Nat → Nat → Bool} {X : XM} {h : AH} (hT : TR g α ν X h) {p0 : Int} {z : Int} (hz : R31 z) {P : AL → (Nat → Nat → Bool) → XM → Prop} {mc ms : Nat} (hA : ∀ a n x, P a n x → a 90 0 = α 90 0) (hc : Al g M_X11_togetherFormula 28 [.ref (α 0 0), .int (J p0)] h mc ms (some (.int (J z))) P) : Al g M_L_togetherFormula 29 [.ref (α 0 0), .int (J p0), .ref (α 90 0)] h mc ms (some (.int (J 0))) (fun a n x => ∃ x0, P a n x0 ∧ x = xs x0 90 0 0 z) := by
  refine ct_of_evH rfl rfl (ls := [some (.ref (α 0 0)), some (.int (J p0)), some (.ref (α 90 0)), none]) rfl (Nat.le_of_ble_eq_true rfl) ?_
  show Ev g M_L_togetherFormula 29 0 [some (.ref (α 0 0)), some (.int (J p0)), some (.ref (α 90 0)), none] [] h (mc + 0) (ms + 0) (fun r h' => r = .inl (some (.int (J 0))) ∧ ∃ α' ν' X', TR g α' ν' X' h' ∧ ∃ x0, P α' ν' x0 ∧ X' = xs x0 90 0 0 z)
  refine ev_ald2 1 dL_togetherFormula_0 rfl ?_
  refine tj_iconst 2 dL_togetherFormula_1 rfl ?_
  refine ev_ald0 3 dL_togetherFormula_2 rfl ?_
  refine ev_ild1 4 dL_togetherFormula_3 rfl ?_
  refine ta_V1 7 13 dL_togetherFormula_4 lkv_L_36 (tr0 hT) rfl rfl (by decide) (Nat.le_of_ble_eq_true rfl) hc (fun h α' ν' X1 hT hP => ?_)
  rw [← hA _ _ _ hP]
  refine ev_i2l 8 dL_togetherFormula_7 rfl ?_
  rw [J_i2l _ hz]
  refine tv_last 9 hT rfl hz dL_togetherFormula_8 rfl (fun h hT => ?_)
  refine ev_goto 18 dL_togetherFormula_9 (by decide) ?_
  refine tj_iconst 19 dL_togetherFormula_18 rfl ?_
  exact ev_ireturn ⟨rfl, _, _, _, hT, _, hP, rfl⟩ rfl dL_togetherFormula_19
set_option maxRecDepth 100000 in
set_option maxHeartbeats 4000000 in
theorem w_togetherFormula_x1 {g : Gt} {α : AL} {ν : Nat → Nat → Bool} {X : XM} {h : AH} (hT : TR g α ν X h) {p0 : Int} (hc : Th g M_X11_togetherFormula 28 [.ref (α 0 0), .int (J p0)] h "java/lang/IndexOutOfBoundsException") : Al g M_L_togetherFormula 29 [.ref (α 0 0), .int (J p0), .ref (α 90 0)] h 1 6 (some (.int (J 1))) (fun a n x => a = α ∧ n = ν ∧ x = X) := by
  refine ct_of_evH rfl rfl (ls := [some (.ref (α 0 0)), some (.int (J p0)), some (.ref (α 90 0)), none]) rfl (Nat.le_of_ble_eq_true rfl) ?_
  show Ev g M_L_togetherFormula 29 0 [some (.ref (α 0 0)), some (.int (J p0)), some (.ref (α 90 0)), none] [] h (1 + 0) (6 + 0) (fun r h' => r = .inl (some (.int (J 1))) ∧ ∃ α' ν' X', TR g α' ν' X' h' ∧ (α' = α ∧ ν' = ν ∧ X' = X))
  refine ev_ald2 1 dL_togetherFormula_0 rfl ?_
  refine tj_iconst 2 dL_togetherFormula_1 rfl ?_
  refine ev_ald0 3 dL_togetherFormula_2 rfl ?_
  refine ev_ild1 4 dL_togetherFormula_3 rfl ?_
  refine tz_V1 7 13 dL_togetherFormula_4 lkv_L_36 (tr0 hT) rfl rfl (by decide) (Nat.le_of_ble_eq_true rfl) hc ?_
  refine xv_catch (name := "java/lang/IndexOutOfBoundsException") [] [(0, 9, 15, 15)] rfl (fun z hz => by cases hz) ⟨by decide, by decide⟩ (by decide) (List.mem_of_getElem? (i := 700) (by decide +kernel)) (List.mem_of_getElem? (i := 734) (by decide +kernel)) (fun q => ?_)
  refine ev_ast3 13 dL_togetherFormula_12 rfl (by decide) rfl ?_
  refine tj_iconst 14 dL_togetherFormula_13 rfl ?_
  exact ev_ireturn ⟨rfl, _, _, _, hT, rfl, rfl, rfl⟩ rfl dL_togetherFormula_14
set_option maxRecDepth 100000 in
set_option maxHeartbeats 4000000 in
theorem w_togetherFormula_x2 {g : Gt} {α : AL} {ν : Nat → Nat → Bool} {X : XM} {h : AH} (hT : TR g α ν X h) {p0 : Int} (hc : Th g M_X11_togetherFormula 28 [.ref (α 0 0), .int (J p0)] h "java/lang/IllegalStateException") : Al g M_L_togetherFormula 29 [.ref (α 0 0), .int (J p0), .ref (α 90 0)] h 1 6 (some (.int (J 2))) (fun a n x => a = α ∧ n = ν ∧ x = X) := by
  refine ct_of_evH rfl rfl (ls := [some (.ref (α 0 0)), some (.int (J p0)), some (.ref (α 90 0)), none]) rfl (Nat.le_of_ble_eq_true rfl) ?_
  show Ev g M_L_togetherFormula 29 0 [some (.ref (α 0 0)), some (.int (J p0)), some (.ref (α 90 0)), none] [] h (1 + 0) (6 + 0) (fun r h' => r = .inl (some (.int (J 2))) ∧ ∃ α' ν' X', TR g α' ν' X' h' ∧ (α' = α ∧ ν' = ν ∧ X' = X))
  refine ev_ald2 1 dL_togetherFormula_0 rfl ?_
  refine tj_iconst 2 dL_togetherFormula_1 rfl ?_
  refine ev_ald0 3 dL_togetherFormula_2 rfl ?_
  refine ev_ild1 4 dL_togetherFormula_3 rfl ?_
  refine tz_V1 7 13 dL_togetherFormula_4 lkv_L_36 (tr0 hT) rfl rfl (by decide) (Nat.le_of_ble_eq_true rfl) hc ?_
  refine xv_catch (name := "java/lang/IllegalStateException") [(0, 9, 12, 24)] [] rfl (fun z hz => by rcases (by simpa using hz : z = (0, 9, 12, 24)) with rfl <;> first | exact ⟨by decide, "java/lang/IndexOutOfBoundsException", List.mem_of_getElem? (i := 700) (by decide +kernel), by decide +kernel⟩) ⟨by decide, by decide⟩ (by decide) (List.mem_of_getElem? (i := 494) (by decide +kernel)) (List.mem_of_getElem? (i := 576) (by decide +kernel)) (fun q => ?_)
  refine ev_ast3 16 dL_togetherFormula_15 rfl (by decide) rfl ?_
  refine tj_iconst 17 dL_togetherFormula_16 rfl ?_
  exact ev_ireturn ⟨rfl, _, _, _, hT, rfl, rfl, rfl⟩ rfl dL_togetherFormula_17
abbrev M_L_transcriptAt : Mt := (yL_transcriptAt, cL_transcriptAt, 5, (Option.some Jvm.ClassFile.FieldType.int), [(0, 10, 13, 24)])
set_option maxRecDepth 100000 in
set_option maxHeartbeats 4000000 in
theorem w_transcriptAt_ok {g : Gt} {α : AL} {ν : Nat → Nat → Bool} {X : XM} {h : AH} (hT : TR g α ν X h) {p0 p1 : Int} {z : Int} (hz : R31 z) {P : AL → (Nat → Nat → Bool) → XM → Prop} {mc ms : Nat} (hA : ∀ a n x, P a n x → a 90 0 = α 90 0) (hc : Al g M_X11_transcriptAt 28 [.ref (α 0 0), .int (J p0), .int (J p1)] h mc ms (some (.int (J z))) P) : Al g M_L_transcriptAt 29 [.ref (α 0 0), .int (J p0), .int (J p1), .ref (α 90 0)] h mc ms (some (.int (J 0))) (fun a n x => ∃ x0, P a n x0 ∧ x = xs x0 90 0 0 z) := by
  refine ct_of_evH rfl rfl (ls := [some (.ref (α 0 0)), some (.int (J p0)), some (.int (J p1)), some (.ref (α 90 0)), none]) rfl (Nat.le_of_ble_eq_true rfl) ?_
  show Ev g M_L_transcriptAt 29 0 [some (.ref (α 0 0)), some (.int (J p0)), some (.int (J p1)), some (.ref (α 90 0)), none] [] h (mc + 0) (ms + 0) (fun r h' => r = .inl (some (.int (J 0))) ∧ ∃ α' ν' X', TR g α' ν' X' h' ∧ ∃ x0, P α' ν' x0 ∧ X' = xs x0 90 0 0 z)
  refine ev_ald3 1 dL_transcriptAt_0 rfl ?_
  refine tj_iconst 2 dL_transcriptAt_1 rfl ?_
  refine ev_ald0 3 dL_transcriptAt_2 rfl ?_
  refine ev_ild1 4 dL_transcriptAt_3 rfl ?_
  refine ev_ild2 5 dL_transcriptAt_4 rfl ?_
  refine ta_V2 8 13 dL_transcriptAt_5 lkv_L_145 (tr0 hT) rfl rfl (by decide) (Nat.le_of_ble_eq_true rfl) hc (fun h α' ν' X1 hT hP => ?_)
  rw [← hA _ _ _ hP]
  refine ev_i2l 9 dL_transcriptAt_8 rfl ?_
  rw [J_i2l _ hz]
  refine tv_last 10 hT rfl hz dL_transcriptAt_9 rfl (fun h hT => ?_)
  refine ev_goto 17 dL_transcriptAt_10 (by decide) ?_
  refine tj_iconst 18 dL_transcriptAt_17 rfl ?_
  exact ev_ireturn ⟨rfl, _, _, _, hT, _, hP, rfl⟩ rfl dL_transcriptAt_18
set_option maxRecDepth 100000 in
set_option maxHeartbeats 4000000 in
theorem w_transcriptAt_x1 {g : Gt} {α : AL} {ν : Nat → Nat → Bool} {X : XM} {h : AH} (hT : TR g α ν X h) {p0 p1 : Int} (hc : Th g M_X11_transcriptAt 28 [.ref (α 0 0), .int (J p0), .int (J p1)] h "java/lang/IndexOutOfBoundsException") : Al g M_L_transcriptAt 29 [.ref (α 0 0), .int (J p0), .int (J p1), .ref (α 90 0)] h 1 6 (some (.int (J 1))) (fun a n x => a = α ∧ n = ν ∧ x = X) := by
  refine ct_of_evH rfl rfl (ls := [some (.ref (α 0 0)), some (.int (J p0)), some (.int (J p1)), some (.ref (α 90 0)), none]) rfl (Nat.le_of_ble_eq_true rfl) ?_
  show Ev g M_L_transcriptAt 29 0 [some (.ref (α 0 0)), some (.int (J p0)), some (.int (J p1)), some (.ref (α 90 0)), none] [] h (1 + 0) (6 + 0) (fun r h' => r = .inl (some (.int (J 1))) ∧ ∃ α' ν' X', TR g α' ν' X' h' ∧ (α' = α ∧ ν' = ν ∧ X' = X))
  refine ev_ald3 1 dL_transcriptAt_0 rfl ?_
  refine tj_iconst 2 dL_transcriptAt_1 rfl ?_
  refine ev_ald0 3 dL_transcriptAt_2 rfl ?_
  refine ev_ild1 4 dL_transcriptAt_3 rfl ?_
  refine ev_ild2 5 dL_transcriptAt_4 rfl ?_
  refine tz_V2 8 13 dL_transcriptAt_5 lkv_L_145 (tr0 hT) rfl rfl (by decide) (Nat.le_of_ble_eq_true rfl) hc ?_
  refine xv_catch (name := "java/lang/IndexOutOfBoundsException") [] [] rfl (fun z hz => by cases hz) ⟨by decide, by decide⟩ (by decide) (List.mem_of_getElem? (i := 700) (by decide +kernel)) (List.mem_of_getElem? (i := 734) (by decide +kernel)) (fun q => ?_)
  refine ev_ast4 15 dL_transcriptAt_13 rfl (by decide) rfl ?_
  refine tj_iconst 16 dL_transcriptAt_15 rfl ?_
  exact ev_ireturn ⟨rfl, _, _, _, hT, rfl, rfl, rfl⟩ rfl dL_transcriptAt_16
abbrev M_L_transcriptLength : Mt := (yL_transcriptLength, cL_transcriptLength, 4, (Option.some Jvm.ClassFile.FieldType.int), [(0, 9, 12, 24)])
set_option maxRecDepth 100000 in
set_option maxHeartbeats 4000000 in
theorem w_transcriptLength_ok {g : Gt} {α : AL} {ν : Nat → Nat → Bool} {X : XM} {h : AH} (hT : TR g α ν X h) {p0 : Int} {z : Int} (hz : R31 z) {P : AL → (Nat → Nat → Bool) → XM → Prop} {mc ms : Nat} (hA : ∀ a n x, P a n x → a 90 0 = α 90 0) (hc : Al g M_X11_transcriptLength 28 [.ref (α 0 0), .int (J p0)] h mc ms (some (.int (J z))) P) : Al g M_L_transcriptLength 29 [.ref (α 0 0), .int (J p0), .ref (α 90 0)] h mc ms (some (.int (J 0))) (fun a n x => ∃ x0, P a n x0 ∧ x = xs x0 90 0 0 z) := by
  refine ct_of_evH rfl rfl (ls := [some (.ref (α 0 0)), some (.int (J p0)), some (.ref (α 90 0)), none]) rfl (Nat.le_of_ble_eq_true rfl) ?_
  show Ev g M_L_transcriptLength 29 0 [some (.ref (α 0 0)), some (.int (J p0)), some (.ref (α 90 0)), none] [] h (mc + 0) (ms + 0) (fun r h' => r = .inl (some (.int (J 0))) ∧ ∃ α' ν' X', TR g α' ν' X' h' ∧ ∃ x0, P α' ν' x0 ∧ X' = xs x0 90 0 0 z)
  refine ev_ald2 1 dL_transcriptLength_0 rfl ?_
  refine tj_iconst 2 dL_transcriptLength_1 rfl ?_
  refine ev_ald0 3 dL_transcriptLength_2 rfl ?_
  refine ev_ild1 4 dL_transcriptLength_3 rfl ?_
  refine ta_V1 7 13 dL_transcriptLength_4 lkv_L_142 (tr0 hT) rfl rfl (by decide) (Nat.le_of_ble_eq_true rfl) hc (fun h α' ν' X1 hT hP => ?_)
  rw [← hA _ _ _ hP]
  refine ev_i2l 8 dL_transcriptLength_7 rfl ?_
  rw [J_i2l _ hz]
  refine tv_last 9 hT rfl hz dL_transcriptLength_8 rfl (fun h hT => ?_)
  refine ev_goto 15 dL_transcriptLength_9 (by decide) ?_
  refine tj_iconst 16 dL_transcriptLength_15 rfl ?_
  exact ev_ireturn ⟨rfl, _, _, _, hT, _, hP, rfl⟩ rfl dL_transcriptLength_16
set_option maxRecDepth 100000 in
set_option maxHeartbeats 4000000 in
theorem w_transcriptLength_x1 {g : Gt} {α : AL} {ν : Nat → Nat → Bool} {X : XM} {h : AH} (hT : TR g α ν X h) {p0 : Int} (hc : Th g M_X11_transcriptLength 28 [.ref (α 0 0), .int (J p0)] h "java/lang/IndexOutOfBoundsException") : Al g M_L_transcriptLength 29 [.ref (α 0 0), .int (J p0), .ref (α 90 0)] h 1 6 (some (.int (J 1))) (fun a n x => a = α ∧ n = ν ∧ x = X) := by
  refine ct_of_evH rfl rfl (ls := [some (.ref (α 0 0)), some (.int (J p0)), some (.ref (α 90 0)), none]) rfl (Nat.le_of_ble_eq_true rfl) ?_
  show Ev g M_L_transcriptLength 29 0 [some (.ref (α 0 0)), some (.int (J p0)), some (.ref (α 90 0)), none] [] h (1 + 0) (6 + 0) (fun r h' => r = .inl (some (.int (J 1))) ∧ ∃ α' ν' X', TR g α' ν' X' h' ∧ (α' = α ∧ ν' = ν ∧ X' = X))
  refine ev_ald2 1 dL_transcriptLength_0 rfl ?_
  refine tj_iconst 2 dL_transcriptLength_1 rfl ?_
  refine ev_ald0 3 dL_transcriptLength_2 rfl ?_
  refine ev_ild1 4 dL_transcriptLength_3 rfl ?_
  refine tz_V1 7 13 dL_transcriptLength_4 lkv_L_142 (tr0 hT) rfl rfl (by decide) (Nat.le_of_ble_eq_true rfl) hc ?_
  refine xv_catch (name := "java/lang/IndexOutOfBoundsException") [] [] rfl (fun z hz => by cases hz) ⟨by decide, by decide⟩ (by decide) (List.mem_of_getElem? (i := 700) (by decide +kernel)) (List.mem_of_getElem? (i := 734) (by decide +kernel)) (fun q => ?_)
  refine ev_ast3 13 dL_transcriptLength_12 rfl (by decide) rfl ?_
  refine tj_iconst 14 dL_transcriptLength_13 rfl ?_
  exact ev_ireturn ⟨rfl, _, _, _, hT, rfl, rfl, rfl⟩ rfl dL_transcriptLength_14
abbrev M_L_twoFormula : Mt := (yL_twoFormula, cL_twoFormula, 6, (Option.some Jvm.ClassFile.FieldType.int), [(0, 12, 15, 45), (0, 12, 19, 15)])
set_option maxRecDepth 100000 in
set_option maxHeartbeats 4000000 in
theorem w_twoFormula_ok {g : Gt} {α : AL} {ν : Nat → Nat → Bool} {X : XM} {h : AH} (hT : TR g α ν X h) {p0 p1 p2 : Int} {z : Int} (hz : R31 z) {P : AL → (Nat → Nat → Bool) → XM → Prop} {mc ms : Nat} (hA : ∀ a n x, P a n x → a 90 0 = α 90 0) (hc : Al g M_X11_twoFormula 28 [.ref (α 0 0), .int (J p0), .int (J p1), .int (J p2)] h mc ms (some (.int (J z))) P) : Al g M_L_twoFormula 29 [.ref (α 0 0), .int (J p0), .int (J p1), .int (J p2), .ref (α 90 0)] h mc ms (some (.int (J 0))) (fun a n x => ∃ x0, P a n x0 ∧ x = xs x0 90 0 0 z) := by
  refine ct_of_evH rfl rfl (ls := [some (.ref (α 0 0)), some (.int (J p0)), some (.int (J p1)), some (.int (J p2)), some (.ref (α 90 0)), none]) rfl (Nat.le_of_ble_eq_true rfl) ?_
  show Ev g M_L_twoFormula 29 0 [some (.ref (α 0 0)), some (.int (J p0)), some (.int (J p1)), some (.int (J p2)), some (.ref (α 90 0)), none] [] h (mc + 0) (ms + 0) (fun r h' => r = .inl (some (.int (J 0))) ∧ ∃ α' ν' X', TR g α' ν' X' h' ∧ ∃ x0, P α' ν' x0 ∧ X' = xs x0 90 0 0 z)
  refine ev_ald4 2 dL_twoFormula_0 rfl ?_
  refine tj_iconst 3 dL_twoFormula_2 rfl ?_
  refine ev_ald0 4 dL_twoFormula_3 rfl ?_
  refine ev_ild1 5 dL_twoFormula_4 rfl ?_
  refine ev_ild2 6 dL_twoFormula_5 rfl ?_
  refine ev_ild3 7 dL_twoFormula_6 rfl ?_
  refine ta_V3 10 13 dL_twoFormula_7 lkv_L_50 (tr0 hT) rfl rfl (by decide) (Nat.le_of_ble_eq_true rfl) hc (fun h α' ν' X1 hT hP => ?_)
  rw [← hA _ _ _ hP]
  refine ev_i2l 11 dL_twoFormula_10 rfl ?_
  rw [J_i2l _ hz]
  refine tv_last 12 hT rfl hz dL_twoFormula_11 rfl (fun h hT => ?_)
  refine ev_goto 23 dL_twoFormula_12 (by decide) ?_
  refine tj_iconst 24 dL_twoFormula_23 rfl ?_
  exact ev_ireturn ⟨rfl, _, _, _, hT, _, hP, rfl⟩ rfl dL_twoFormula_24
set_option maxRecDepth 100000 in
set_option maxHeartbeats 4000000 in
theorem w_twoFormula_x1 {g : Gt} {α : AL} {ν : Nat → Nat → Bool} {X : XM} {h : AH} (hT : TR g α ν X h) {p0 p1 p2 : Int} (hc : Th g M_X11_twoFormula 28 [.ref (α 0 0), .int (J p0), .int (J p1), .int (J p2)] h "java/util/NoSuchElementException") : Al g M_L_twoFormula 29 [.ref (α 0 0), .int (J p0), .int (J p1), .int (J p2), .ref (α 90 0)] h 1 6 (some (.int (J 1))) (fun a n x => a = α ∧ n = ν ∧ x = X) := by
  refine ct_of_evH rfl rfl (ls := [some (.ref (α 0 0)), some (.int (J p0)), some (.int (J p1)), some (.int (J p2)), some (.ref (α 90 0)), none]) rfl (Nat.le_of_ble_eq_true rfl) ?_
  show Ev g M_L_twoFormula 29 0 [some (.ref (α 0 0)), some (.int (J p0)), some (.int (J p1)), some (.int (J p2)), some (.ref (α 90 0)), none] [] h (1 + 0) (6 + 0) (fun r h' => r = .inl (some (.int (J 1))) ∧ ∃ α' ν' X', TR g α' ν' X' h' ∧ (α' = α ∧ ν' = ν ∧ X' = X))
  refine ev_ald4 2 dL_twoFormula_0 rfl ?_
  refine tj_iconst 3 dL_twoFormula_2 rfl ?_
  refine ev_ald0 4 dL_twoFormula_3 rfl ?_
  refine ev_ild1 5 dL_twoFormula_4 rfl ?_
  refine ev_ild2 6 dL_twoFormula_5 rfl ?_
  refine ev_ild3 7 dL_twoFormula_6 rfl ?_
  refine tz_V3 10 13 dL_twoFormula_7 lkv_L_50 (tr0 hT) rfl rfl (by decide) (Nat.le_of_ble_eq_true rfl) hc ?_
  refine xv_catch (name := "java/util/NoSuchElementException") [] [(0, 12, 19, 15)] rfl (fun z hz => by cases hz) ⟨by decide, by decide⟩ (by decide) (List.mem_of_getElem? (i := 867) (by decide +kernel)) (List.mem_of_getElem? (i := 878) (by decide +kernel)) (fun q => ?_)
  refine ev_ast5 17 dL_twoFormula_15 rfl (by decide) rfl ?_
  refine tj_iconst 18 dL_twoFormula_17 rfl ?_
  exact ev_ireturn ⟨rfl, _, _, _, hT, rfl, rfl, rfl⟩ rfl dL_twoFormula_18
set_option maxRecDepth 100000 in
set_option maxHeartbeats 4000000 in
theorem w_twoFormula_x2 {g : Gt} {α : AL} {ν : Nat → Nat → Bool} {X : XM} {h : AH} (hT : TR g α ν X h) {p0 p1 p2 : Int} (hc : Th g M_X11_twoFormula 28 [.ref (α 0 0), .int (J p0), .int (J p1), .int (J p2)] h "java/lang/IllegalStateException") : Al g M_L_twoFormula 29 [.ref (α 0 0), .int (J p0), .int (J p1), .int (J p2), .ref (α 90 0)] h 1 6 (some (.int (J 2))) (fun a n x => a = α ∧ n = ν ∧ x = X) := by
  refine ct_of_evH rfl rfl (ls := [some (.ref (α 0 0)), some (.int (J p0)), some (.int (J p1)), some (.int (J p2)), some (.ref (α 90 0)), none]) rfl (Nat.le_of_ble_eq_true rfl) ?_
  show Ev g M_L_twoFormula 29 0 [some (.ref (α 0 0)), some (.int (J p0)), some (.int (J p1)), some (.int (J p2)), some (.ref (α 90 0)), none] [] h (1 + 0) (6 + 0) (fun r h' => r = .inl (some (.int (J 2))) ∧ ∃ α' ν' X', TR g α' ν' X' h' ∧ (α' = α ∧ ν' = ν ∧ X' = X))
  refine ev_ald4 2 dL_twoFormula_0 rfl ?_
  refine tj_iconst 3 dL_twoFormula_2 rfl ?_
  refine ev_ald0 4 dL_twoFormula_3 rfl ?_
  refine ev_ild1 5 dL_twoFormula_4 rfl ?_
  refine ev_ild2 6 dL_twoFormula_5 rfl ?_
  refine ev_ild3 7 dL_twoFormula_6 rfl ?_
  refine tz_V3 10 13 dL_twoFormula_7 lkv_L_50 (tr0 hT) rfl rfl (by decide) (Nat.le_of_ble_eq_true rfl) hc ?_
  refine xv_catch (name := "java/lang/IllegalStateException") [(0, 12, 15, 45)] [] rfl (fun z hz => by rcases (by simpa using hz : z = (0, 12, 15, 45)) with rfl <;> first | exact ⟨by decide, "java/util/NoSuchElementException", List.mem_of_getElem? (i := 867) (by decide +kernel), by decide +kernel⟩) ⟨by decide, by decide⟩ (by decide) (List.mem_of_getElem? (i := 494) (by decide +kernel)) (List.mem_of_getElem? (i := 576) (by decide +kernel)) (fun q => ?_)
  refine ev_ast5 21 dL_twoFormula_19 rfl (by decide) rfl ?_
  refine tj_iconst 22 dL_twoFormula_21 rfl ?_
  exact ev_ireturn ⟨rfl, _, _, _, hT, rfl, rfl, rfl⟩ rfl dL_twoFormula_22
abbrev M_L_waiting : Mt := (yL_waiting, cL_waiting, 4, (Option.some Jvm.ClassFile.FieldType.int), [(0, 9, 12, 24)])
set_option maxRecDepth 100000 in
set_option maxHeartbeats 4000000 in
theorem w_waiting_ok {g : Gt} {α : AL} {ν : Nat → Nat → Bool} {X : XM} {h : AH} (hT : TR g α ν X h) {p0 : Int} {z : Int} (hz : R31 z) {P : AL → (Nat → Nat → Bool) → XM → Prop} {mc ms : Nat} (hA : ∀ a n x, P a n x → a 90 0 = α 90 0) (hc : Al g M_X11_waiting 28 [.ref (α 0 0), .int (J p0)] h mc ms (some (.int (J z))) P) : Al g M_L_waiting 29 [.ref (α 0 0), .int (J p0), .ref (α 90 0)] h mc ms (some (.int (J 0))) (fun a n x => ∃ x0, P a n x0 ∧ x = xs x0 90 0 0 z) := by
  refine ct_of_evH rfl rfl (ls := [some (.ref (α 0 0)), some (.int (J p0)), some (.ref (α 90 0)), none]) rfl (Nat.le_of_ble_eq_true rfl) ?_
  show Ev g M_L_waiting 29 0 [some (.ref (α 0 0)), some (.int (J p0)), some (.ref (α 90 0)), none] [] h (mc + 0) (ms + 0) (fun r h' => r = .inl (some (.int (J 0))) ∧ ∃ α' ν' X', TR g α' ν' X' h' ∧ ∃ x0, P α' ν' x0 ∧ X' = xs x0 90 0 0 z)
  refine ev_ald2 1 dL_waiting_0 rfl ?_
  refine tj_iconst 2 dL_waiting_1 rfl ?_
  refine ev_ald0 3 dL_waiting_2 rfl ?_
  refine ev_ild1 4 dL_waiting_3 rfl ?_
  refine ta_V1 7 13 dL_waiting_4 lkv_L_120 (tr0 hT) rfl rfl (by decide) (Nat.le_of_ble_eq_true rfl) hc (fun h α' ν' X1 hT hP => ?_)
  rw [← hA _ _ _ hP]
  refine ev_i2l 8 dL_waiting_7 rfl ?_
  rw [J_i2l _ hz]
  refine tv_last 9 hT rfl hz dL_waiting_8 rfl (fun h hT => ?_)
  refine ev_goto 15 dL_waiting_9 (by decide) ?_
  refine tj_iconst 16 dL_waiting_15 rfl ?_
  exact ev_ireturn ⟨rfl, _, _, _, hT, _, hP, rfl⟩ rfl dL_waiting_16
set_option maxRecDepth 100000 in
set_option maxHeartbeats 4000000 in
theorem w_waiting_x1 {g : Gt} {α : AL} {ν : Nat → Nat → Bool} {X : XM} {h : AH} (hT : TR g α ν X h) {p0 : Int} (hc : Th g M_X11_waiting 28 [.ref (α 0 0), .int (J p0)] h "java/lang/IndexOutOfBoundsException") : Al g M_L_waiting 29 [.ref (α 0 0), .int (J p0), .ref (α 90 0)] h 1 6 (some (.int (J 1))) (fun a n x => a = α ∧ n = ν ∧ x = X) := by
  refine ct_of_evH rfl rfl (ls := [some (.ref (α 0 0)), some (.int (J p0)), some (.ref (α 90 0)), none]) rfl (Nat.le_of_ble_eq_true rfl) ?_
  show Ev g M_L_waiting 29 0 [some (.ref (α 0 0)), some (.int (J p0)), some (.ref (α 90 0)), none] [] h (1 + 0) (6 + 0) (fun r h' => r = .inl (some (.int (J 1))) ∧ ∃ α' ν' X', TR g α' ν' X' h' ∧ (α' = α ∧ ν' = ν ∧ X' = X))
  refine ev_ald2 1 dL_waiting_0 rfl ?_
  refine tj_iconst 2 dL_waiting_1 rfl ?_
  refine ev_ald0 3 dL_waiting_2 rfl ?_
  refine ev_ild1 4 dL_waiting_3 rfl ?_
  refine tz_V1 7 13 dL_waiting_4 lkv_L_120 (tr0 hT) rfl rfl (by decide) (Nat.le_of_ble_eq_true rfl) hc ?_
  refine xv_catch (name := "java/lang/IndexOutOfBoundsException") [] [] rfl (fun z hz => by cases hz) ⟨by decide, by decide⟩ (by decide) (List.mem_of_getElem? (i := 700) (by decide +kernel)) (List.mem_of_getElem? (i := 734) (by decide +kernel)) (fun q => ?_)
  refine ev_ast3 13 dL_waiting_12 rfl (by decide) rfl ?_
  refine tj_iconst 14 dL_waiting_13 rfl ?_
  exact ev_ireturn ⟨rfl, _, _, _, hT, rfl, rfl, rfl⟩ rfl dL_waiting_14
abbrev M_L_whyLong : Mt := (yL_whyLong, cL_whyLong, 5, (Option.some Jvm.ClassFile.FieldType.int), [(0, 10, 13, 24), (0, 10, 17, 45), (0, 10, 21, 15)])
set_option maxRecDepth 100000 in
set_option maxHeartbeats 4000000 in
theorem w_whyLong_ok {g : Gt} {α : AL} {ν : Nat → Nat → Bool} {X : XM} {h : AH} (hT : TR g α ν X h) {p0 p1 : Int} {z : Int} (hz : R31 z) {P : AL → (Nat → Nat → Bool) → XM → Prop} {mc ms : Nat} (hA : ∀ a n x, P a n x → a 90 0 = α 90 0) (hc : Al g M_X11_whyLong 28 [.ref (α 0 0), .int (J p0), .int (J p1)] h mc ms (some (.int (J z))) P) : Al g M_L_whyLong 29 [.ref (α 0 0), .int (J p0), .int (J p1), .ref (α 90 0)] h mc ms (some (.int (J 0))) (fun a n x => ∃ x0, P a n x0 ∧ x = xs x0 90 0 0 z) := by
  refine ct_of_evH rfl rfl (ls := [some (.ref (α 0 0)), some (.int (J p0)), some (.int (J p1)), some (.ref (α 90 0)), none]) rfl (Nat.le_of_ble_eq_true rfl) ?_
  show Ev g M_L_whyLong 29 0 [some (.ref (α 0 0)), some (.int (J p0)), some (.int (J p1)), some (.ref (α 90 0)), none] [] h (mc + 0) (ms + 0) (fun r h' => r = .inl (some (.int (J 0))) ∧ ∃ α' ν' X', TR g α' ν' X' h' ∧ ∃ x0, P α' ν' x0 ∧ X' = xs x0 90 0 0 z)
  refine ev_ald3 1 dL_whyLong_0 rfl ?_
  refine tj_iconst 2 dL_whyLong_1 rfl ?_
  refine ev_ald0 3 dL_whyLong_2 rfl ?_
  refine ev_ild1 4 dL_whyLong_3 rfl ?_
  refine ev_ild2 5 dL_whyLong_4 rfl ?_
  refine ta_V2 8 13 dL_whyLong_5 lkv_L_136 (tr0 hT) rfl rfl (by decide) (Nat.le_of_ble_eq_true rfl) hc (fun h α' ν' X1 hT hP => ?_)
  rw [← hA _ _ _ hP]
  refine ev_i2l 9 dL_whyLong_8 rfl ?_
  rw [J_i2l _ hz]
  refine tv_last 10 hT rfl hz dL_whyLong_9 rfl (fun h hT => ?_)
  refine ev_goto 25 dL_whyLong_10 (by decide) ?_
  refine tj_iconst 26 dL_whyLong_25 rfl ?_
  exact ev_ireturn ⟨rfl, _, _, _, hT, _, hP, rfl⟩ rfl dL_whyLong_26
set_option maxRecDepth 100000 in
set_option maxHeartbeats 4000000 in
theorem w_whyLong_x1 {g : Gt} {α : AL} {ν : Nat → Nat → Bool} {X : XM} {h : AH} (hT : TR g α ν X h) {p0 p1 : Int} (hc : Th g M_X11_whyLong 28 [.ref (α 0 0), .int (J p0), .int (J p1)] h "java/lang/IndexOutOfBoundsException") : Al g M_L_whyLong 29 [.ref (α 0 0), .int (J p0), .int (J p1), .ref (α 90 0)] h 1 6 (some (.int (J 1))) (fun a n x => a = α ∧ n = ν ∧ x = X) := by
  refine ct_of_evH rfl rfl (ls := [some (.ref (α 0 0)), some (.int (J p0)), some (.int (J p1)), some (.ref (α 90 0)), none]) rfl (Nat.le_of_ble_eq_true rfl) ?_
  show Ev g M_L_whyLong 29 0 [some (.ref (α 0 0)), some (.int (J p0)), some (.int (J p1)), some (.ref (α 90 0)), none] [] h (1 + 0) (6 + 0) (fun r h' => r = .inl (some (.int (J 1))) ∧ ∃ α' ν' X', TR g α' ν' X' h' ∧ (α' = α ∧ ν' = ν ∧ X' = X))
  refine ev_ald3 1 dL_whyLong_0 rfl ?_
  refine tj_iconst 2 dL_whyLong_1 rfl ?_
  refine ev_ald0 3 dL_whyLong_2 rfl ?_
  refine ev_ild1 4 dL_whyLong_3 rfl ?_
  refine ev_ild2 5 dL_whyLong_4 rfl ?_
  refine tz_V2 8 13 dL_whyLong_5 lkv_L_136 (tr0 hT) rfl rfl (by decide) (Nat.le_of_ble_eq_true rfl) hc ?_
  refine xv_catch (name := "java/lang/IndexOutOfBoundsException") [] [(0, 10, 17, 45), (0, 10, 21, 15)] rfl (fun z hz => by cases hz) ⟨by decide, by decide⟩ (by decide) (List.mem_of_getElem? (i := 700) (by decide +kernel)) (List.mem_of_getElem? (i := 734) (by decide +kernel)) (fun q => ?_)
  refine ev_ast4 15 dL_whyLong_13 rfl (by decide) rfl ?_
  refine tj_iconst 16 dL_whyLong_15 rfl ?_
  exact ev_ireturn ⟨rfl, _, _, _, hT, rfl, rfl, rfl⟩ rfl dL_whyLong_16
set_option maxRecDepth 100000 in
set_option maxHeartbeats 4000000 in
theorem w_whyLong_x2 {g : Gt} {α : AL} {ν : Nat → Nat → Bool} {X : XM} {h : AH} (hT : TR g α ν X h) {p0 p1 : Int} (hc : Th g M_X11_whyLong 28 [.ref (α 0 0), .int (J p0), .int (J p1)] h "java/util/NoSuchElementException") : Al g M_L_whyLong 29 [.ref (α 0 0), .int (J p0), .int (J p1), .ref (α 90 0)] h 1 6 (some (.int (J 2))) (fun a n x => a = α ∧ n = ν ∧ x = X) := by
  refine ct_of_evH rfl rfl (ls := [some (.ref (α 0 0)), some (.int (J p0)), some (.int (J p1)), some (.ref (α 90 0)), none]) rfl (Nat.le_of_ble_eq_true rfl) ?_
  show Ev g M_L_whyLong 29 0 [some (.ref (α 0 0)), some (.int (J p0)), some (.int (J p1)), some (.ref (α 90 0)), none] [] h (1 + 0) (6 + 0) (fun r h' => r = .inl (some (.int (J 2))) ∧ ∃ α' ν' X', TR g α' ν' X' h' ∧ (α' = α ∧ ν' = ν ∧ X' = X))
  refine ev_ald3 1 dL_whyLong_0 rfl ?_
  refine tj_iconst 2 dL_whyLong_1 rfl ?_
  refine ev_ald0 3 dL_whyLong_2 rfl ?_
  refine ev_ild1 4 dL_whyLong_3 rfl ?_
  refine ev_ild2 5 dL_whyLong_4 rfl ?_
  refine tz_V2 8 13 dL_whyLong_5 lkv_L_136 (tr0 hT) rfl rfl (by decide) (Nat.le_of_ble_eq_true rfl) hc ?_
  refine xv_catch (name := "java/util/NoSuchElementException") [(0, 10, 13, 24)] [(0, 10, 21, 15)] rfl (fun z hz => by rcases (by simpa using hz : z = (0, 10, 13, 24)) with rfl <;> first | exact ⟨by decide, "java/lang/IndexOutOfBoundsException", List.mem_of_getElem? (i := 700) (by decide +kernel), by decide +kernel⟩) ⟨by decide, by decide⟩ (by decide) (List.mem_of_getElem? (i := 867) (by decide +kernel)) (List.mem_of_getElem? (i := 878) (by decide +kernel)) (fun q => ?_)
  refine ev_ast4 19 dL_whyLong_17 rfl (by decide) rfl ?_
  refine tj_iconst 20 dL_whyLong_19 rfl ?_
  exact ev_ireturn ⟨rfl, _, _, _, hT, rfl, rfl, rfl⟩ rfl dL_whyLong_20
set_option maxRecDepth 100000 in
set_option maxHeartbeats 4000000 in
theorem w_whyLong_x3 {g : Gt} {α : AL} {ν : Nat → Nat → Bool} {X : XM} {h : AH} (hT : TR g α ν X h) {p0 p1 : Int} (hc : Th g M_X11_whyLong 28 [.ref (α 0 0), .int (J p0), .int (J p1)] h "java/lang/IllegalStateException") : Al g M_L_whyLong 29 [.ref (α 0 0), .int (J p0), .int (J p1), .ref (α 90 0)] h 1 6 (some (.int (J 3))) (fun a n x => a = α ∧ n = ν ∧ x = X) := by
  refine ct_of_evH rfl rfl (ls := [some (.ref (α 0 0)), some (.int (J p0)), some (.int (J p1)), some (.ref (α 90 0)), none]) rfl (Nat.le_of_ble_eq_true rfl) ?_
  show Ev g M_L_whyLong 29 0 [some (.ref (α 0 0)), some (.int (J p0)), some (.int (J p1)), some (.ref (α 90 0)), none] [] h (1 + 0) (6 + 0) (fun r h' => r = .inl (some (.int (J 3))) ∧ ∃ α' ν' X', TR g α' ν' X' h' ∧ (α' = α ∧ ν' = ν ∧ X' = X))
  refine ev_ald3 1 dL_whyLong_0 rfl ?_
  refine tj_iconst 2 dL_whyLong_1 rfl ?_
  refine ev_ald0 3 dL_whyLong_2 rfl ?_
  refine ev_ild1 4 dL_whyLong_3 rfl ?_
  refine ev_ild2 5 dL_whyLong_4 rfl ?_
  refine tz_V2 8 13 dL_whyLong_5 lkv_L_136 (tr0 hT) rfl rfl (by decide) (Nat.le_of_ble_eq_true rfl) hc ?_
  refine xv_catch (name := "java/lang/IllegalStateException") [(0, 10, 13, 24), (0, 10, 17, 45)] [] rfl (fun z hz => by rcases (by simpa using hz : z = (0, 10, 13, 24) ∨ z = (0, 10, 17, 45)) with rfl | rfl <;> first | exact ⟨by decide, "java/lang/IndexOutOfBoundsException", List.mem_of_getElem? (i := 700) (by decide +kernel), by decide +kernel⟩ | exact ⟨by decide, "java/util/NoSuchElementException", List.mem_of_getElem? (i := 867) (by decide +kernel), by decide +kernel⟩) ⟨by decide, by decide⟩ (by decide) (List.mem_of_getElem? (i := 494) (by decide +kernel)) (List.mem_of_getElem? (i := 576) (by decide +kernel)) (fun q => ?_)
  refine ev_ast4 23 dL_whyLong_21 rfl (by decide) rfl ?_
  refine tj_iconst 24 dL_whyLong_23 rfl ?_
  exact ev_ireturn ⟨rfl, _, _, _, hT, rfl, rfl, rfl⟩ rfl dL_whyLong_24
abbrev M_L_whyNot : Mt := (yL_whyNot, cL_whyNot, 5, (Option.some Jvm.ClassFile.FieldType.int), [(0, 10, 13, 24), (0, 10, 17, 45), (0, 10, 21, 15)])
set_option maxRecDepth 100000 in
set_option maxHeartbeats 4000000 in
theorem w_whyNot_ok {g : Gt} {α : AL} {ν : Nat → Nat → Bool} {X : XM} {h : AH} (hT : TR g α ν X h) {p0 p1 : Int} {z : Int} (hz : R31 z) {P : AL → (Nat → Nat → Bool) → XM → Prop} {mc ms : Nat} (hA : ∀ a n x, P a n x → a 90 0 = α 90 0) (hc : Al g M_X11_whyNot 28 [.ref (α 0 0), .int (J p0), .int (J p1)] h mc ms (some (.int (J z))) P) : Al g M_L_whyNot 29 [.ref (α 0 0), .int (J p0), .int (J p1), .ref (α 90 0)] h mc ms (some (.int (J 0))) (fun a n x => ∃ x0, P a n x0 ∧ x = xs x0 90 0 0 z) := by
  refine ct_of_evH rfl rfl (ls := [some (.ref (α 0 0)), some (.int (J p0)), some (.int (J p1)), some (.ref (α 90 0)), none]) rfl (Nat.le_of_ble_eq_true rfl) ?_
  show Ev g M_L_whyNot 29 0 [some (.ref (α 0 0)), some (.int (J p0)), some (.int (J p1)), some (.ref (α 90 0)), none] [] h (mc + 0) (ms + 0) (fun r h' => r = .inl (some (.int (J 0))) ∧ ∃ α' ν' X', TR g α' ν' X' h' ∧ ∃ x0, P α' ν' x0 ∧ X' = xs x0 90 0 0 z)
  refine ev_ald3 1 dL_whyNot_0 rfl ?_
  refine tj_iconst 2 dL_whyNot_1 rfl ?_
  refine ev_ald0 3 dL_whyNot_2 rfl ?_
  refine ev_ild1 4 dL_whyNot_3 rfl ?_
  refine ev_ild2 5 dL_whyNot_4 rfl ?_
  refine ta_V2 8 13 dL_whyNot_5 lkv_L_133 (tr0 hT) rfl rfl (by decide) (Nat.le_of_ble_eq_true rfl) hc (fun h α' ν' X1 hT hP => ?_)
  rw [← hA _ _ _ hP]
  refine ev_i2l 9 dL_whyNot_8 rfl ?_
  rw [J_i2l _ hz]
  refine tv_last 10 hT rfl hz dL_whyNot_9 rfl (fun h hT => ?_)
  refine ev_goto 25 dL_whyNot_10 (by decide) ?_
  refine tj_iconst 26 dL_whyNot_25 rfl ?_
  exact ev_ireturn ⟨rfl, _, _, _, hT, _, hP, rfl⟩ rfl dL_whyNot_26
set_option maxRecDepth 100000 in
set_option maxHeartbeats 4000000 in
theorem w_whyNot_x1 {g : Gt} {α : AL} {ν : Nat → Nat → Bool} {X : XM} {h : AH} (hT : TR g α ν X h) {p0 p1 : Int} (hc : Th g M_X11_whyNot 28 [.ref (α 0 0), .int (J p0), .int (J p1)] h "java/lang/IndexOutOfBoundsException") : Al g M_L_whyNot 29 [.ref (α 0 0), .int (J p0), .int (J p1), .ref (α 90 0)] h 1 6 (some (.int (J 1))) (fun a n x => a = α ∧ n = ν ∧ x = X) := by
  refine ct_of_evH rfl rfl (ls := [some (.ref (α 0 0)), some (.int (J p0)), some (.int (J p1)), some (.ref (α 90 0)), none]) rfl (Nat.le_of_ble_eq_true rfl) ?_
  show Ev g M_L_whyNot 29 0 [some (.ref (α 0 0)), some (.int (J p0)), some (.int (J p1)), some (.ref (α 90 0)), none] [] h (1 + 0) (6 + 0) (fun r h' => r = .inl (some (.int (J 1))) ∧ ∃ α' ν' X', TR g α' ν' X' h' ∧ (α' = α ∧ ν' = ν ∧ X' = X))
  refine ev_ald3 1 dL_whyNot_0 rfl ?_
  refine tj_iconst 2 dL_whyNot_1 rfl ?_
  refine ev_ald0 3 dL_whyNot_2 rfl ?_
  refine ev_ild1 4 dL_whyNot_3 rfl ?_
  refine ev_ild2 5 dL_whyNot_4 rfl ?_
  refine tz_V2 8 13 dL_whyNot_5 lkv_L_133 (tr0 hT) rfl rfl (by decide) (Nat.le_of_ble_eq_true rfl) hc ?_
  refine xv_catch (name := "java/lang/IndexOutOfBoundsException") [] [(0, 10, 17, 45), (0, 10, 21, 15)] rfl (fun z hz => by cases hz) ⟨by decide, by decide⟩ (by decide) (List.mem_of_getElem? (i := 700) (by decide +kernel)) (List.mem_of_getElem? (i := 734) (by decide +kernel)) (fun q => ?_)
  refine ev_ast4 15 dL_whyNot_13 rfl (by decide) rfl ?_
  refine tj_iconst 16 dL_whyNot_15 rfl ?_
  exact ev_ireturn ⟨rfl, _, _, _, hT, rfl, rfl, rfl⟩ rfl dL_whyNot_16
set_option maxRecDepth 100000 in
set_option maxHeartbeats 4000000 in
theorem w_whyNot_x2 {g : Gt} {α : AL} {ν : Nat → Nat → Bool} {X : XM} {h : AH} (hT : TR g α ν X h) {p0 p1 : Int} (hc : Th g M_X11_whyNot 28 [.ref (α 0 0), .int (J p0), .int (J p1)] h "java/util/NoSuchElementException") : Al g M_L_whyNot 29 [.ref (α 0 0), .int (J p0), .int (J p1), .ref (α 90 0)] h 1 6 (some (.int (J 2))) (fun a n x => a = α ∧ n = ν ∧ x = X) := by
  refine ct_of_evH rfl rfl (ls := [some (.ref (α 0 0)), some (.int (J p0)), some (.int (J p1)), some (.ref (α 90 0)), none]) rfl (Nat.le_of_ble_eq_true rfl) ?_
  show Ev g M_L_whyNot 29 0 [some (.ref (α 0 0)), some (.int (J p0)), some (.int (J p1)), some (.ref (α 90 0)), none] [] h (1 + 0) (6 + 0) (fun r h' => r = .inl (some (.int (J 2))) ∧ ∃ α' ν' X', TR g α' ν' X' h' ∧ (α' = α ∧ ν' = ν ∧ X' = X))
  refine ev_ald3 1 dL_whyNot_0 rfl ?_
  refine tj_iconst 2 dL_whyNot_1 rfl ?_
  refine ev_ald0 3 dL_whyNot_2 rfl ?_
  refine ev_ild1 4 dL_whyNot_3 rfl ?_
  refine ev_ild2 5 dL_whyNot_4 rfl ?_
  refine tz_V2 8 13 dL_whyNot_5 lkv_L_133 (tr0 hT) rfl rfl (by decide) (Nat.le_of_ble_eq_true rfl) hc ?_
  refine xv_catch (name := "java/util/NoSuchElementException") [(0, 10, 13, 24)] [(0, 10, 21, 15)] rfl (fun z hz => by rcases (by simpa using hz : z = (0, 10, 13, 24)) with rfl <;> first | exact ⟨by decide, "java/lang/IndexOutOfBoundsException", List.mem_of_getElem? (i := 700) (by decide +kernel), by decide +kernel⟩) ⟨by decide, by decide⟩ (by decide) (List.mem_of_getElem? (i := 867) (by decide +kernel)) (List.mem_of_getElem? (i := 878) (by decide +kernel)) (fun q => ?_)
  refine ev_ast4 19 dL_whyNot_17 rfl (by decide) rfl ?_
  refine tj_iconst 20 dL_whyNot_19 rfl ?_
  exact ev_ireturn ⟨rfl, _, _, _, hT, rfl, rfl, rfl⟩ rfl dL_whyNot_20
set_option maxRecDepth 100000 in
set_option maxHeartbeats 4000000 in
theorem w_whyNot_x3 {g : Gt} {α : AL} {ν : Nat → Nat → Bool} {X : XM} {h : AH} (hT : TR g α ν X h) {p0 p1 : Int} (hc : Th g M_X11_whyNot 28 [.ref (α 0 0), .int (J p0), .int (J p1)] h "java/lang/IllegalStateException") : Al g M_L_whyNot 29 [.ref (α 0 0), .int (J p0), .int (J p1), .ref (α 90 0)] h 1 6 (some (.int (J 3))) (fun a n x => a = α ∧ n = ν ∧ x = X) := by
  refine ct_of_evH rfl rfl (ls := [some (.ref (α 0 0)), some (.int (J p0)), some (.int (J p1)), some (.ref (α 90 0)), none]) rfl (Nat.le_of_ble_eq_true rfl) ?_
  show Ev g M_L_whyNot 29 0 [some (.ref (α 0 0)), some (.int (J p0)), some (.int (J p1)), some (.ref (α 90 0)), none] [] h (1 + 0) (6 + 0) (fun r h' => r = .inl (some (.int (J 3))) ∧ ∃ α' ν' X', TR g α' ν' X' h' ∧ (α' = α ∧ ν' = ν ∧ X' = X))
  refine ev_ald3 1 dL_whyNot_0 rfl ?_
  refine tj_iconst 2 dL_whyNot_1 rfl ?_
  refine ev_ald0 3 dL_whyNot_2 rfl ?_
  refine ev_ild1 4 dL_whyNot_3 rfl ?_
  refine ev_ild2 5 dL_whyNot_4 rfl ?_
  refine tz_V2 8 13 dL_whyNot_5 lkv_L_133 (tr0 hT) rfl rfl (by decide) (Nat.le_of_ble_eq_true rfl) hc ?_
  refine xv_catch (name := "java/lang/IllegalStateException") [(0, 10, 13, 24), (0, 10, 17, 45)] [] rfl (fun z hz => by rcases (by simpa using hz : z = (0, 10, 13, 24) ∨ z = (0, 10, 17, 45)) with rfl | rfl <;> first | exact ⟨by decide, "java/lang/IndexOutOfBoundsException", List.mem_of_getElem? (i := 700) (by decide +kernel), by decide +kernel⟩ | exact ⟨by decide, "java/util/NoSuchElementException", List.mem_of_getElem? (i := 867) (by decide +kernel), by decide +kernel⟩) ⟨by decide, by decide⟩ (by decide) (List.mem_of_getElem? (i := 494) (by decide +kernel)) (List.mem_of_getElem? (i := 576) (by decide +kernel)) (fun q => ?_)
  refine ev_ast4 23 dL_whyNot_21 rfl (by decide) rfl ?_
  refine tj_iconst 24 dL_whyNot_23 rfl ?_
  exact ev_ireturn ⟨rfl, _, _, _, hT, rfl, rfl, rfl⟩ rfl dL_whyNot_24
