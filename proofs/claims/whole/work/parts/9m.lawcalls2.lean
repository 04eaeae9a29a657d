/-! THE LAW'S OWN CALLS: what the class wrote before it threw; the fractions -/
section RU9
variable {g : Gt} {α : AL} {ν : Nat → Nat → Bool} {X : XM} {M M2 : Mt} {d d1 pc : Nat} {ls : List (Option Value)} {st : List Value} {h : AH} {mc ms mc1 ms1 : Nat} {Q : RT → AH → Prop}
theorem tv_dast {z : Int} {v : UInt64} (n : Nat) (hT : TR g α ν X h) (hz : z = 0) (hd : decode (mC M) pc = .ok (.dastore, 1)) (hn : pc + 1 = n) (kk : ∀ h', TR g α ν (xs X 91 0 0 (v.toNat : Int)) h' → Ev g M d n ls st h' mc ms Q) : Ev g M d pc ls (.double v :: .int (J z) :: .ref (α 91 0) :: st) h mc ms Q := by
  subst hz
  have hv := tv91 hT
  obtain ⟨h1, h2⟩ := hT.1 91 0 hv
  refine ev_dastore n h1 h2 (J_in (j := 0) (n := 1) (by omega) (by omega)) hd hn ?_
  rw [show (J 0).toNatClampNeg = 0 from J_clampN (j := 0) (by omega)]
  refine kk _ ?_
  refine ⟨fun k' i' hv' => ⟨?_, (hT.1 k' i' hv').2⟩, hT.2.1, fun k' i' j' h91 => ?_, hT.2.2.2⟩
  · by_cases e : k' = 91 ∧ i' = 0
    · obtain ⟨rfl, rfl⟩ := e
      rw [hup_eq, xs_fn]
      refine congrArg some ?_
      show _ = ck91 g α 0 _
      unfold ck91
      refine congrArg (fun f => (Sum.inl (6, 1, Sum.inr (Sum.inr (Sum.inr (Sum.inl f)))) : AC)) (funext fun j' => ?_)
      unfold vf_upd
      by_cases e2 : j' = 0
      · simp [e2]
      · simp [e2]
    · rw [hup_ne (fun z => e (hT.2.1 k' i' 91 0 hv' hv z)), xs_ne e]
      exact (hT.1 k' i' hv').1
  · rw [xs_nk h91]; exact hT.rng k' i' j' h91
theorem tv_dald {z : Int} (n : Nat) (hT : TR g α ν X h) (hz : z = 0) (hd : decode (mC M) pc = .ok (.daload, 1)) (hn : pc + 1 = n) (kk : Ev g M d n ls (.double (UInt64.ofNat (X 91 0 0).toNat) :: st) h mc ms Q) : Ev g M d pc ls (.int (J z) :: .ref (α 91 0) :: st) h mc ms Q := by
  subst hz
  obtain ⟨h1, h2⟩ := hT.1 91 0 (tv91 hT)
  refine ev_daload n h1 (J_in (j := 0) (n := 1) (by omega) (by omega)) hd hn ?_
  rw [show (J 0).toNatClampNeg = 0 from J_clampN (j := 0) (by omega)]
  exact kk
theorem tv_lald {z : Int} (n : Nat) (hT : TR g α ν X h) (hz : z = 0) (hd : decode (mC M) pc = .ok (.laload, 1)) (hn : pc + 1 = n) (kk : Ev g M d n ls (.long (Int64.ofInt (X 90 0 0)) :: st) h mc ms Q) : Ev g M d pc ls (.int (J z) :: .ref (α 90 0) :: st) h mc ms Q := by
  subst hz
  obtain ⟨h1, h2⟩ := hT.1 90 0 (tv90 hT)
  refine ev_laload n h1 (J_in (j := 0) (n := 1) (by omega) (by omega)) hd hn ?_
  rw [show (J 0).toNatClampNeg = 0 from J_clampN (j := 0) (by omega)]
  exact kk
theorem tzu_V0 {E : String} {P : XM → Prop} {b : Nat} {fs : List Value} {index : Nat} (n ci : Nat) (hd : decode (mC M) pc = .ok (.invokevirtual index, 3)) (L : LKv (mY M).cls index M2 0) (hb : h b = some (.inr (ci, fs))) (hci : vwCl[ci]?.map (·.1) = some (mY M2).cls) (hn : pc + 3 = n) (hd1 : d1 < d) (hcat : (st.map fun v => v.category).sum ≤ 8) (hc : Tu g α ν M2 d1 [.ref b] h E P) (kx : ∀ h' X', TR g α ν X' h' → P X' → Xv g M d pc ls E h' mc ms Q) : Ev g M d pc ls (.ref b :: st) h (1 + mc) (6 + ms) Q :=
  ev_callV n ci L hc hd1 hb hci rfl rfl hcat hd hn (fun v h' hq => by cases hq.1) (fun E h' hq2 => by obtain ⟨e1, X', e2, e3⟩ := hq2; cases e1; exact kx h' X' e2 e3)
theorem tzu_V1 {x0 : Value} {E : String} {P : XM → Prop} {b : Nat} {fs : List Value} {index : Nat} (n ci : Nat) (hd : decode (mC M) pc = .ok (.invokevirtual index, 3)) (L : LKv (mY M).cls index M2 1) (hb : h b = some (.inr (ci, fs))) (hci : vwCl[ci]?.map (·.1) = some (mY M2).cls) (hn : pc + 3 = n) (hd1 : d1 < d) (hcat : (st.map fun v => v.category).sum ≤ 8) (hc : Tu g α ν M2 d1 [.ref b, x0] h E P) (kx : ∀ h' X', TR g α ν X' h' → P X' → Xv g M d pc ls E h' mc ms Q) : Ev g M d pc ls (x0 :: .ref b :: st) h (1 + mc) (6 + ms) Q :=
  ev_callV n ci L hc hd1 hb hci rfl rfl hcat hd hn (fun v h' hq => by cases hq.1) (fun E h' hq2 => by obtain ⟨e1, X', e2, e3⟩ := hq2; cases e1; exact kx h' X' e2 e3)
theorem tzu_V2 {x0 x1 : Value} {E : String} {P : XM → Prop} {b : Nat} {fs : List Value} {index : Nat} (n ci : Nat) (hd : decode (mC M) pc = .ok (.invokevirtual index, 3)) (L : LKv (mY M).cls index M2 2) (hb : h b = some (.inr (ci, fs))) (hci : vwCl[ci]?.map (·.1) = some (mY M2).cls) (hn : pc + 3 = n) (hd1 : d1 < d) (hcat : (st.map fun v => v.category).sum ≤ 8) (hc : Tu g α ν M2 d1 [.ref b, x0, x1] h E P) (kx : ∀ h' X', TR g α ν X' h' → P X' → Xv g M d pc ls E h' mc ms Q) : Ev g M d pc ls (x1 :: x0 :: .ref b :: st) h (1 + mc) (6 + ms) Q :=
  ev_callV n ci L hc hd1 hb hci rfl rfl hcat hd hn (fun v h' hq => by cases hq.1) (fun E h' hq2 => by obtain ⟨e1, X', e2, e3⟩ := hq2; cases e1; exact kx h' X' e2 e3)
theorem tzu_V3 {x0 x1 x2 : Value} {E : String} {P : XM → Prop} {b : Nat} {fs : List Value} {index : Nat} (n ci : Nat) (hd : decode (mC M) pc = .ok (.invokevirtual index, 3)) (L : LKv (mY M).cls index M2 3) (hb : h b = some (.inr (ci, fs))) (hci : vwCl[ci]?.map (·.1) = some (mY M2).cls) (hn : pc + 3 = n) (hd1 : d1 < d) (hcat : (st.map fun v => v.category).sum ≤ 8) (hc : Tu g α ν M2 d1 [.ref b, x0, x1, x2] h E P) (kx : ∀ h' X', TR g α ν X' h' → P X' → Xv g M d pc ls E h' mc ms Q) : Ev g M d pc ls (x2 :: x1 :: x0 :: .ref b :: st) h (1 + mc) (6 + ms) Q :=
  ev_callV n ci L hc hd1 hb hci rfl rfl hcat hd hn (fun v h' hq => by cases hq.1) (fun E h' hq2 => by obtain ⟨e1, X', e2, e3⟩ := hq2; cases e1; exact kx h' X' e2 e3)
theorem q_order {x : Jvm.FP.Core.Datum} (h : x ≠ .nan) : Jvm.FP.Core.order x x = some .eq := by
  cases x with
  | nan => exact absurd rfl h
  | inf s => simp [Jvm.FP.Core.order]
  | fin s c q => simp [Jvm.FP.Core.order]
end RU9
set_option maxRecDepth 100000 in
set_option maxHeartbeats 4000000 in
theorem w_termsTo_x2u {g : Gt} {α : AL} {ν : Nat → Nat → Bool} {X : XM} {h : AH} (hT : TR g α ν X h) {p0 : Int} {Pm : XM → Prop} (hc : Tu g α ν M_X11_termsTo 28 [.ref (α 0 0), .int (J p0)] h "java/util/NoSuchElementException" Pm) : Al g M_L_termsTo 29 [.ref (α 0 0), .int (J p0), .ref (α 90 0)] h 1 6 (some (.int (J 2))) (fun a n x => a = α ∧ n = ν ∧ Pm x) := by
  refine ct_of_evH rfl rfl (ls := [some (.ref (α 0 0)), some (.int (J p0)), some (.ref (α 90 0)), none]) rfl (Nat.le_of_ble_eq_true rfl) ?_
  show Ev g M_L_termsTo 29 0 [some (.ref (α 0 0)), some (.int (J p0)), some (.ref (α 90 0)), none] [] h (1 + 0) (6 + 0) (fun r h' => r = .inl (some (.int (J 2))) ∧ ∃ α' ν' X', TR g α' ν' X' h' ∧ (α' = α ∧ ν' = ν ∧ Pm X'))
  refine ev_ald2 1 dL_termsTo_0 rfl ?_
  refine tj_iconst 2 dL_termsTo_1 rfl ?_
  refine ev_ald0 3 dL_termsTo_2 rfl ?_
  refine ev_ild1 4 dL_termsTo_3 rfl ?_
  refine tzu_V1 7 13 dL_termsTo_4 lkv_L_139 (tr0 hT) rfl rfl (by decide) (Nat.le_of_ble_eq_true rfl) hc (fun h X1 hT hP => ?_)
  refine xv_catch (name := "java/util/NoSuchElementException") [(0, 9, 12, 24)] [] rfl (fun z hz => by rcases (by simpa using hz : z = (0, 9, 12, 24)) with rfl <;> first | exact ⟨by decide, "java/lang/IndexOutOfBoundsException", List.mem_of_getElem? (i := 700) (by decide +kernel), by decide +kernel⟩) ⟨by decide, by decide⟩ (by decide) (List.mem_of_getElem? (i := 867) (by decide +kernel)) (List.mem_of_getElem? (i := 878) (by decide +kernel)) (fun q => ?_)
  refine ev_ast3 16 dL_termsTo_15 rfl (by decide) rfl ?_
  refine tj_iconst 17 dL_termsTo_16 rfl ?_
  exact ev_ireturn ⟨rfl, _, _, _, hT, rfl, rfl, hP⟩ rfl dL_termsTo_17
set_option maxRecDepth 100000 in
set_option maxHeartbeats 4000000 in
theorem w_transcriptAt_x1u {g : Gt} {α : AL} {ν : Nat → Nat → Bool} {X : XM} {h : AH} (hT : TR g α ν X h) {p0 p1 : Int} {Pm : XM → Prop} (hc : Tu g α ν M_X11_transcriptAt 28 [.ref (α 0 0), .int (J p0), .int (J p1)] h "java/lang/IndexOutOfBoundsException" Pm) : Al g M_L_transcriptAt 29 [.ref (α 0 0), .int (J p0), .int (J p1), .ref (α 90 0)] h 1 6 (some (.int (J 1))) (fun a n x => a = α ∧ n = ν ∧ Pm x) := by
  refine ct_of_evH rfl rfl (ls := [some (.ref (α 0 0)), some (.int (J p0)), some (.int (J p1)), some (.ref (α 90 0)), none]) rfl (Nat.le_of_ble_eq_true rfl) ?_
  show Ev g M_L_transcriptAt 29 0 [some (.ref (α 0 0)), some (.int (J p0)), some (.int (J p1)), some (.ref (α 90 0)), none] [] h (1 + 0) (6 + 0) (fun r h' => r = .inl (some (.int (J 1))) ∧ ∃ α' ν' X', TR g α' ν' X' h' ∧ (α' = α ∧ ν' = ν ∧ Pm X'))
  refine ev_ald3 1 dL_transcriptAt_0 rfl ?_
  refine tj_iconst 2 dL_transcriptAt_1 rfl ?_
  refine ev_ald0 3 dL_transcriptAt_2 rfl ?_
  refine ev_ild1 4 dL_transcriptAt_3 rfl ?_
  refine ev_ild2 5 dL_transcriptAt_4 rfl ?_
  refine tzu_V2 8 13 dL_transcriptAt_5 lkv_L_145 (tr0 hT) rfl rfl (by decide) (Nat.le_of_ble_eq_true rfl) hc (fun h X1 hT hP => ?_)
  refine xv_catch (name := "java/lang/IndexOutOfBoundsException") [] [] rfl (fun z hz => by cases hz) ⟨by decide, by decide⟩ (by decide) (List.mem_of_getElem? (i := 700) (by decide +kernel)) (List.mem_of_getElem? (i := 734) (by decide +kernel)) (fun q => ?_)
  refine ev_ast4 15 dL_transcriptAt_13 rfl (by decide) rfl ?_
  refine tj_iconst 16 dL_transcriptAt_15 rfl ?_
  exact ev_ireturn ⟨rfl, _, _, _, hT, rfl, rfl, hP⟩ rfl dL_transcriptAt_16
set_option maxRecDepth 100000 in
set_option maxHeartbeats 4000000 in
theorem w_swap_x5u {g : Gt} {α : AL} {ν : Nat → Nat → Bool} {X : XM} {h : AH} (hT : TR g α ν X h) {p0 p1 p2 : Int} {Pm : XM → Prop} (hc : Tu g α ν M_X11_swap 28 [.ref (α 0 0), .int (J p0), .int (J p1), .int (J p2)] h "java/lang/UnsupportedOperationException" Pm) : Al g M_L_swap 29 [.ref (α 0 0), .int (J p0), .int (J p1), .int (J p2), .ref (α 90 0)] h 1 6 (some (.int (J 5))) (fun a n x => a = α ∧ n = ν ∧ Pm x) := by
  refine ct_of_evH rfl rfl (ls := [some (.ref (α 0 0)), some (.int (J p0)), some (.int (J p1)), some (.int (J p2)), some (.ref (α 90 0)), none]) rfl (Nat.le_of_ble_eq_true rfl) ?_
  show Ev g M_L_swap 29 0 [some (.ref (α 0 0)), some (.int (J p0)), some (.int (J p1)), some (.int (J p2)), some (.ref (α 90 0)), none] [] h (1 + 0) (6 + 0) (fun r h' => r = .inl (some (.int (J 5))) ∧ ∃ α' ν' X', TR g α' ν' X' h' ∧ (α' = α ∧ ν' = ν ∧ Pm X'))
  refine ev_ald4 2 dL_swap_0 rfl ?_
  refine tj_iconst 3 dL_swap_2 rfl ?_
  refine ev_ald0 4 dL_swap_3 rfl ?_
  refine ev_ild1 5 dL_swap_4 rfl ?_
  refine ev_ild2 6 dL_swap_5 rfl ?_
  refine ev_ild3 7 dL_swap_6 rfl ?_
  refine tzu_V3 10 13 dL_swap_7 lkv_L_84 (tr0 hT) rfl rfl (by decide) (Nat.le_of_ble_eq_true rfl) hc (fun h X1 hT hP => ?_)
  refine xv_catch (name := "java/lang/UnsupportedOperationException") [(0, 12, 15, 24), (0, 12, 19, 15), (0, 12, 23, 45), (0, 12, 27, 13)] [(0, 12, 35, 76)] rfl (fun z hz => by rcases (by simpa using hz : z = (0, 12, 15, 24) ∨ z = (0, 12, 19, 15) ∨ z = (0, 12, 23, 45) ∨ z = (0, 12, 27, 13)) with rfl | rfl | rfl | rfl <;> first | exact ⟨by decide, "java/lang/IndexOutOfBoundsException", List.mem_of_getElem? (i := 700) (by decide +kernel), by decide +kernel⟩ | exact ⟨by decide, "java/lang/IllegalStateException", List.mem_of_getElem? (i := 494) (by decide +kernel), by decide +kernel⟩ | exact ⟨by decide, "java/util/NoSuchElementException", List.mem_of_getElem? (i := 867) (by decide +kernel), by decide +kernel⟩ | exact ⟨by decide, "java/lang/IllegalArgumentException", List.mem_of_getElem? (i := 493) (by decide +kernel), by decide +kernel⟩) ⟨by decide, by decide⟩ (by decide) (List.mem_of_getElem? (i := 985) (by decide +kernel)) (List.mem_of_getElem? (i := 1018) (by decide +kernel)) (fun q => ?_)
  refine ev_ast5 33 dL_swap_31 rfl (by decide) rfl ?_
  refine tj_iconst 34 dL_swap_33 rfl ?_
  exact ev_ireturn ⟨rfl, _, _, _, hT, rfl, rfl, hP⟩ rfl dL_swap_34
set_option maxRecDepth 100000 in
set_option maxHeartbeats 4000000 in
theorem w_swap_x6u {g : Gt} {α : AL} {ν : Nat → Nat → Bool} {X : XM} {h : AH} (hT : TR g α ν X h) {p0 p1 p2 : Int} {Pm : XM → Prop} (hc : Tu g α ν M_X11_swap 28 [.ref (α 0 0), .int (J p0), .int (J p1), .int (J p2)] h "java/lang/ArithmeticException" Pm) : Al g M_L_swap 29 [.ref (α 0 0), .int (J p0), .int (J p1), .int (J p2), .ref (α 90 0)] h 1 6 (some (.int (J 6))) (fun a n x => a = α ∧ n = ν ∧ Pm x) := by
  refine ct_of_evH rfl rfl (ls := [some (.ref (α 0 0)), some (.int (J p0)), some (.int (J p1)), some (.int (J p2)), some (.ref (α 90 0)), none]) rfl (Nat.le_of_ble_eq_true rfl) ?_
  show Ev g M_L_swap 29 0 [some (.ref (α 0 0)), some (.int (J p0)), some (.int (J p1)), some (.int (J p2)), some (.ref (α 90 0)), none] [] h (1 + 0) (6 + 0) (fun r h' => r = .inl (some (.int (J 6))) ∧ ∃ α' ν' X', TR g α' ν' X' h' ∧ (α' = α ∧ ν' = ν ∧ Pm X'))
  refine ev_ald4 2 dL_swap_0 rfl ?_
  refine tj_iconst 3 dL_swap_2 rfl ?_
  refine ev_ald0 4 dL_swap_3 rfl ?_
  refine ev_ild1 5 dL_swap_4 rfl ?_
  refine ev_ild2 6 dL_swap_5 rfl ?_
  refine ev_ild3 7 dL_swap_6 rfl ?_
  refine tzu_V3 10 13 dL_swap_7 lkv_L_84 (tr0 hT) rfl rfl (by decide) (Nat.le_of_ble_eq_true rfl) hc (fun h X1 hT hP => ?_)
  refine xv_catch (name := "java/lang/ArithmeticException") [(0, 12, 15, 24), (0, 12, 19, 15), (0, 12, 23, 45), (0, 12, 27, 13), (0, 12, 31, 74)] [] rfl (fun z hz => by rcases (by simpa using hz : z = (0, 12, 15, 24) ∨ z = (0, 12, 19, 15) ∨ z = (0, 12, 23, 45) ∨ z = (0, 12, 27, 13) ∨ z = (0, 12, 31, 74)) with rfl | rfl | rfl | rfl | rfl <;> first | exact ⟨by decide, "java/lang/IndexOutOfBoundsException", List.mem_of_getElem? (i := 700) (by decide +kernel), by decide +kernel⟩ | exact ⟨by decide, "java/lang/IllegalStateException", List.mem_of_getElem? (i := 494) (by decide +kernel), by decide +kernel⟩ | exact ⟨by decide, "java/util/NoSuchElementException", List.mem_of_getElem? (i := 867) (by decide +kernel), by decide +kernel⟩ | exact ⟨by decide, "java/lang/IllegalArgumentException", List.mem_of_getElem? (i := 493) (by decide +kernel), by decide +kernel⟩ | exact ⟨by decide, "java/lang/UnsupportedOperationException", List.mem_of_getElem? (i := 985) (by decide +kernel), by decide +kernel⟩) ⟨by decide, by decide⟩ (by decide) (List.mem_of_getElem? (i := 986) (by decide +kernel)) (List.mem_of_getElem? (i := 998) (by decide +kernel)) (fun q => ?_)
  refine ev_ast5 37 dL_swap_35 rfl (by decide) rfl ?_
  refine tj_bipush 39 dL_swap_37 (by decide) rfl ?_
  exact ev_ireturn ⟨rfl, _, _, _, hT, rfl, rfl, hP⟩ rfl dL_swap_39
set_option maxRecDepth 100000 in
set_option maxHeartbeats 4000000 in
theorem w_ruleFor_x2u {g : Gt} {α : AL} {ν : Nat → Nat → Bool} {X : XM} {h : AH} (hT : TR g α ν X h) {p0 p1 : Int} {Pm : XM → Prop} (hc : Tu g α ν M_X11_ruleFor 28 [.ref (α 0 0), .int (J p0), .int (J p1)] h "java/util/NoSuchElementException" Pm) : Al g M_L_ruleFor 29 [.ref (α 0 0), .int (J p0), .int (J p1), .ref (α 90 0)] h 1 6 (some (.int (J 2))) (fun a n x => a = α ∧ n = ν ∧ Pm x) := by
  refine ct_of_evH rfl rfl (ls := [some (.ref (α 0 0)), some (.int (J p0)), some (.int (J p1)), some (.ref (α 90 0)), none]) rfl (Nat.le_of_ble_eq_true rfl) ?_
  show Ev g M_L_ruleFor 29 0 [some (.ref (α 0 0)), some (.int (J p0)), some (.int (J p1)), some (.ref (α 90 0)), none] [] h (1 + 0) (6 + 0) (fun r h' => r = .inl (some (.int (J 2))) ∧ ∃ α' ν' X', TR g α' ν' X' h' ∧ (α' = α ∧ ν' = ν ∧ Pm X'))
  refine ev_ald3 1 dL_ruleFor_0 rfl ?_
  refine tj_iconst 2 dL_ruleFor_1 rfl ?_
  refine ev_ald0 3 dL_ruleFor_2 rfl ?_
  refine ev_ild1 4 dL_ruleFor_3 rfl ?_
  refine ev_ild2 5 dL_ruleFor_4 rfl ?_
  refine tzu_V2 8 13 dL_ruleFor_5 lkv_L_169 (tr0 hT) rfl rfl (by decide) (Nat.le_of_ble_eq_true rfl) hc (fun h X1 hT hP => ?_)
  refine xv_catch (name := "java/util/NoSuchElementException") [(0, 10, 13, 24)] [] rfl (fun z hz => by rcases (by simpa using hz : z = (0, 10, 13, 24)) with rfl <;> first | exact ⟨by decide, "java/lang/IndexOutOfBoundsException", List.mem_of_getElem? (i := 700) (by decide +kernel), by decide +kernel⟩) ⟨by decide, by decide⟩ (by decide) (List.mem_of_getElem? (i := 867) (by decide +kernel)) (List.mem_of_getElem? (i := 878) (by decide +kernel)) (fun q => ?_)
  refine ev_ast4 19 dL_ruleFor_17 rfl (by decide) rfl ?_
  refine tj_iconst 20 dL_ruleFor_19 rfl ?_
  exact ev_ireturn ⟨rfl, _, _, _, hT, rfl, rfl, hP⟩ rfl dL_ruleFor_20
set_option maxRecDepth 100000 in
set_option maxHeartbeats 4000000 in
theorem w_share_x1 {g : Gt} {α : AL} {ν : Nat → Nat → Bool} {X : XM} {h : AH} (hT : TR g α ν X h) {p0 : Int} (hc : Th g M_X11_share 28 [.ref (α 0 0), .int (J p0)] h "java/lang/IndexOutOfBoundsException") : Al g M_L_share 29 [.ref (α 0 0), .int (J p0), .ref (α 91 0)] h 1 6 (some (.int (J 1))) (fun a n x => a = α ∧ n = ν ∧ x = X) := by
  refine ct_of_evH rfl rfl (ls := [some (.ref (α 0 0)), some (.int (J p0)), some (.ref (α 91 0)), none]) rfl (Nat.le_of_ble_eq_true rfl) ?_
  show Ev g M_L_share 29 0 [some (.ref (α 0 0)), some (.int (J p0)), some (.ref (α 91 0)), none] [] h (1 + 0) (6 + 0) (fun r h' => r = .inl (some (.int (J 1))) ∧ ∃ α' ν' X', TR g α' ν' X' h' ∧ (α' = α ∧ ν' = ν ∧ X' = X))
  refine ev_ald2 1 dL_share_0 rfl ?_
  refine tj_iconst 2 dL_share_1 rfl ?_
  refine ev_ald0 3 dL_share_2 rfl ?_
  refine ev_ild1 4 dL_share_3 rfl ?_
  refine tz_V1 7 13 dL_share_4 lkv_L_129 (tr0 hT) rfl rfl (by decide) (Nat.le_of_ble_eq_true rfl) hc ?_
  refine xv_catch (name := "java/lang/IndexOutOfBoundsException") [] [] rfl (fun z hz => by cases hz) ⟨by decide, by decide⟩ (by decide) (List.mem_of_getElem? (i := 700) (by decide +kernel)) (List.mem_of_getElem? (i := 734) (by decide +kernel)) (fun q => ?_)
  refine ev_ast3 13 dL_share_12 rfl (by decide) rfl ?_
  refine tj_iconst 14 dL_share_13 rfl ?_
  exact ev_ireturn ⟨rfl, _, _, _, hT, rfl, rfl, rfl⟩ rfl dL_share_14
set_option maxRecDepth 100000 in
set_option maxHeartbeats 4000000 in
theorem w_share_ok {g : Gt} {α : AL} {ν : Nat → Nat → Bool} {X : XM} {h : AH} (hT : TR g α ν X h) {p0 : Int} {v : UInt32} (hf : vf_n64 (FP.f2d v)) (hc : Pr g M_X11_share 28 [.ref (α 0 0), .int (J p0)] h (some (.float v))) : Al g M_L_share 29 [.ref (α 0 0), .int (J p0), .ref (α 91 0)] h 0 0 (some (.int (J 0))) (fun a n x => a = α ∧ n = ν ∧ x = xs X 91 0 0 ((FP.f2d v).toNat : Int)) := by
  refine ct_of_evH rfl rfl (ls := [some (.ref (α 0 0)), some (.int (J p0)), some (.ref (α 91 0)), none]) rfl (Nat.le_of_ble_eq_true rfl) ?_
  show Ev g M_L_share 29 0 [some (.ref (α 0 0)), some (.int (J p0)), some (.ref (α 91 0)), none] [] h 0 0 (fun r h' => r = .inl (some (.int (J 0))) ∧ ∃ α' ν' X', TR g α' ν' X' h' ∧ (α' = α ∧ ν' = ν ∧ X' = xs X 91 0 0 ((FP.f2d v).toNat : Int)))
  refine ev_ald2 1 dL_share_0 rfl ?_
  refine tj_iconst 2 dL_share_1 rfl ?_
  refine ev_ald0 3 dL_share_2 rfl ?_
  refine ev_ild1 4 dL_share_3 rfl ?_
  refine tc_V1 7 13 dL_share_4 lkv_L_129 (tr0 hT) rfl rfl (by decide) (Nat.le_of_ble_eq_true rfl) hc ?_
  refine ev_f2d 8 dL_share_7 hf rfl ?_
  refine tv_dast 9 hT rfl dL_share_8 rfl (fun h hT => ?_)
  refine ev_goto 15 dL_share_9 (by decide) ?_
  refine tj_iconst 16 dL_share_15 rfl ?_
  exact ev_ireturn ⟨rfl, _, _, _, hT, rfl, rfl, rfl⟩ rfl dL_share_16
set_option maxRecDepth 100000 in
set_option maxHeartbeats 4000000 in
theorem w_average_x1 {g : Gt} {α : AL} {ν : Nat → Nat → Bool} {X : XM} {h : AH} (hT : TR g α ν X h) {p0 : Int} (hc : Th g M_X11_average 28 [.ref (α 0 0), .int (J p0)] h "java/lang/IndexOutOfBoundsException") : Al g M_L_average 29 [.ref (α 0 0), .int (J p0), .ref (α 91 0)] h 1 6 (some (.int (J 1))) (fun a n x => a = α ∧ n = ν ∧ x = X) := by
  refine ct_of_evH rfl rfl (ls := [some (.ref (α 0 0)), some (.int (J p0)), some (.ref (α 91 0)), none]) rfl (Nat.le_of_ble_eq_true rfl) ?_
  show Ev g M_L_average 29 0 [some (.ref (α 0 0)), some (.int (J p0)), some (.ref (α 91 0)), none] [] h (1 + 0) (6 + 0) (fun r h' => r = .inl (some (.int (J 1))) ∧ ∃ α' ν' X', TR g α' ν' X' h' ∧ (α' = α ∧ ν' = ν ∧ X' = X))
  refine ev_ald2 1 dL_average_0 rfl ?_
  refine tj_iconst 2 dL_average_1 rfl ?_
  refine ev_ald0 3 dL_average_2 rfl ?_
  refine ev_ild1 4 dL_average_3 rfl ?_
  refine tz_V1 7 13 dL_average_4 lkv_L_107 (tr0 hT) rfl rfl (by decide) (Nat.le_of_ble_eq_true rfl) hc ?_
  refine xv_catch (name := "java/lang/IndexOutOfBoundsException") [] [(0, 8, 14, 76)] rfl (fun z hz => by cases hz) ⟨by decide, by decide⟩ (by decide) (List.mem_of_getElem? (i := 700) (by decide +kernel)) (List.mem_of_getElem? (i := 734) (by decide +kernel)) (fun q => ?_)
  refine ev_ast3 12 dL_average_11 rfl (by decide) rfl ?_
  refine tj_iconst 13 dL_average_12 rfl ?_
  exact ev_ireturn ⟨rfl, _, _, _, hT, rfl, rfl, rfl⟩ rfl dL_average_13
set_option maxRecDepth 100000 in
set_option maxHeartbeats 4000000 in
theorem w_average_x2 {g : Gt} {α : AL} {ν : Nat → Nat → Bool} {X : XM} {h : AH} (hT : TR g α ν X h) {p0 : Int} (hc : Th g M_X11_average 28 [.ref (α 0 0), .int (J p0)] h "java/lang/ArithmeticException") : Al g M_L_average 29 [.ref (α 0 0), .int (J p0), .ref (α 91 0)] h 1 6 (some (.int (J 2))) (fun a n x => a = α ∧ n = ν ∧ x = X) := by
  refine ct_of_evH rfl rfl (ls := [some (.ref (α 0 0)), some (.int (J p0)), some (.ref (α 91 0)), none]) rfl (Nat.le_of_ble_eq_true rfl) ?_
  show Ev g M_L_average 29 0 [some (.ref (α 0 0)), some (.int (J p0)), some (.ref (α 91 0)), none] [] h (1 + 0) (6 + 0) (fun r h' => r = .inl (some (.int (J 2))) ∧ ∃ α' ν' X', TR g α' ν' X' h' ∧ (α' = α ∧ ν' = ν ∧ X' = X))
  refine ev_ald2 1 dL_average_0 rfl ?_
  refine tj_iconst 2 dL_average_1 rfl ?_
  refine ev_ald0 3 dL_average_2 rfl ?_
  refine ev_ild1 4 dL_average_3 rfl ?_
  refine tz_V1 7 13 dL_average_4 lkv_L_107 (tr0 hT) rfl rfl (by decide) (Nat.le_of_ble_eq_true rfl) hc ?_
  refine xv_catch (name := "java/lang/ArithmeticException") [(0, 8, 11, 24)] [] rfl (fun z hz => by rcases (by simpa using hz : z = (0, 8, 11, 24)) with rfl <;> first | exact ⟨by decide, "java/lang/IndexOutOfBoundsException", List.mem_of_getElem? (i := 700) (by decide +kernel), by decide +kernel⟩) ⟨by decide, by decide⟩ (by decide) (List.mem_of_getElem? (i := 986) (by decide +kernel)) (List.mem_of_getElem? (i := 998) (by decide +kernel)) (fun q => ?_)
  refine ev_ast3 15 dL_average_14 rfl (by decide) rfl ?_
  refine tj_iconst 16 dL_average_15 rfl ?_
  exact ev_ireturn ⟨rfl, _, _, _, hT, rfl, rfl, rfl⟩ rfl dL_average_16
set_option maxRecDepth 100000 in
set_option maxHeartbeats 4000000 in
theorem w_average_ok {g : Gt} {α : AL} {ν : Nat → Nat → Bool} {X : XM} {h : AH} (hT : TR g α ν X h) {p0 : Int} {v : UInt64} (hc : Pr g M_X11_average 28 [.ref (α 0 0), .int (J p0)] h (some (.double v))) : Al g M_L_average 29 [.ref (α 0 0), .int (J p0), .ref (α 91 0)] h 0 0 (some (.int (J 0))) (fun a n x => a = α ∧ n = ν ∧ x = xs X 91 0 0 (v.toNat : Int)) := by
  refine ct_of_evH rfl rfl (ls := [some (.ref (α 0 0)), some (.int (J p0)), some (.ref (α 91 0)), none]) rfl (Nat.le_of_ble_eq_true rfl) ?_
  show Ev g M_L_average 29 0 [some (.ref (α 0 0)), some (.int (J p0)), some (.ref (α 91 0)), none] [] h 0 0 (fun r h' => r = .inl (some (.int (J 0))) ∧ ∃ α' ν' X', TR g α' ν' X' h' ∧ (α' = α ∧ ν' = ν ∧ X' = xs X 91 0 0 (v.toNat : Int)))
  refine ev_ald2 1 dL_average_0 rfl ?_
  refine tj_iconst 2 dL_average_1 rfl ?_
  refine ev_ald0 3 dL_average_2 rfl ?_
  refine ev_ild1 4 dL_average_3 rfl ?_
  refine tc_V1 7 13 dL_average_4 lkv_L_107 (tr0 hT) rfl rfl (by decide) (Nat.le_of_ble_eq_true rfl) hc ?_
  refine tv_dast 8 hT rfl dL_average_7 rfl (fun h hT => ?_)
  refine ev_goto 17 dL_average_8 (by decide) ?_
  refine tj_iconst 18 dL_average_17 rfl ?_
  exact ev_ireturn ⟨rfl, _, _, _, hT, rfl, rfl, rfl⟩ rfl dL_average_18
