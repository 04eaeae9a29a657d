/-! THE LAW: what holds at its entry; the claim -/
/-- the words that the claim gives of the start -/
abbrev lw_gv : Jvm.Cond := Jvm.Cond.and given_1 narrow_1
section LWE
variable {s : State} {A : Array Value}
theorem ee_str {own tx : String} {k : Nat} (h0 : (Cond.stringRef own k tx).before A s = true) : ∃ sa, vk_R own k tx sa s := by
  have h : (Cond.stringRef own k tx).before #[] s = true := h0
  cases hc : s.vm.findClass own with
  | none => exfalso; simp [Cond.before, Cond.holds, Cond.value, hc] at h
  | some cur =>
    obtain ⟨-, -, -, a, -, -, -, -, -, he⟩ := Cond.stringRef_spec hc h
    exact ⟨a, vk_R.of h he⟩
theorem ee_len {t : Term} {n : Int32} (h : (Cond.eq (.length t) (.int n)).before A s = true) : (Term.length t).eval A s none [] s = some (.int n) := by
  cases he : (Term.length t).eval A s none [] s with
  | none => exfalso; simp [Cond.before, Cond.holds, Cond.value, he] at h
  | some v =>
    obtain ⟨a, cell, -, -, rfl⟩ := Term.length_spec he
    have h2 : decide (cell.slots.size.toInt32 = n) = true := by
      have q := Cond.eq_ints (a := .length t) (b := .int n) he (show (Term.int n).eval A s none [] s = some (.int n) from rfl)
      simpa [Cond.before, Cond.holds, q] using h
    rw [of_decide_eq_true h2]
theorem ee_arr {ty : FieldType} (h : (Cond.arrayClass ty).before A s = true) (hty : ∀ C, ty ≠ .object C) : ∃ cA, ArrOfT s cA ty ∧ va_RA s cA ty := by
  obtain ⟨c, k, comp, h1, h2, h3⟩ := Cond.arrayClass_spec h
  refine ⟨c, fun n z => ⟨fun k h => (by cases h), k, h2, comp, h3⟩, ?_⟩
  cases ty with
  | object C => exact absurd rfl (hty C)
  | _ => exact h1
theorem ee_over {C : String} (h : (Cond.arrayOver (.object C)).before A s = true) : ∃ cA, ArrOfT s cA (.object C) ∧ va_RA s cA (.object C) := by
  obtain ⟨comp, c, k, h1, h2, h3, h4, h5⟩ := Cond.arrayOver_spec h
  exact ⟨c, fun n z => ⟨fun k h => (by cases h), k, h3, comp, h4⟩, k, comp, h3, h4, h1, h5⟩
theorem ee_overA {t : FieldType} (h : (Cond.arrayOver (.array t)).before A s = true) : ∃ cA, ArrOfT s cA (.array t) ∧ va_RA s cA (.array t) := by
  have h0 : (Cond.arrayOver (.array t)).holds A s none s [] = true := h
  simp only [Cond.holds, Cond.value, beq_iff_eq] at h0
  cases hc : s.vm.findClass (FieldType.array t).toString with
  | none => simp [hc] at h0
  | some comp =>
    simp only [hc, Option.bind_some, Option.bind_eq_some_iff, Option.map_eq_some_iff] at h0
    obtain ⟨c, hi, k, hk, hb⟩ := h0
    have hp := (Array.findIdx?_eq_some_iff_getElem.mp hi).2.1
    rw [(Array.getElem?_eq_some_iff.mp hk).2] at hp
    cases hkind : k.kind with
    | array component ty =>
      rw [hkind] at hb hp
      simp at hb hp
      refine ⟨c, fun n z => ⟨fun k h => (by cases h), k, hk, comp, ?_⟩, hb.2⟩
      rw [hkind, hp, hb.1]
    | _ => rw [hkind] at hb; simp at hb
theorem ee_any {w : Cond} (hp : pw w = true) (h : w.before A s = true) : w.before #[] s = true := by
  simp only [pw, Bool.or_eq_true] at hp
  rcases hp with hp | hp
  · exact word_at (State.WarmedH.refl s) (good_of_word hp) h
  · cases w <;> first | (cases hp; done) | exact va_Nw.of rfl h
end LWE
set_option maxRecDepth 100000 in
theorem ee_classes {s : State} {A : Array Value} (hts : ∀ w ∈ lw_tbl, w.before A s = true) : ∀ (c : Nat) (q : vw_C), vwCl[c]? = some q → ∃ (cC : ClassId) (iS : Nat → Nat), u_Kn s q.1 q.2.1 q.2.2 cC iS := by
  intro c q hq
  match c, hq with
  | 0, hq => cases hq; exact u_known hts (fun w hw => (uw_0 w hw).1) (hts (.instantiable RJ0 4) (List.mem_of_getElem? (i := 961) (by decide +kernel)))
  | 1, hq => cases hq; exact u_known hts (fun w hw => (uw_1 w hw).1) (hts (.instantiable RJx00060 6) (List.mem_of_getElem? (i := 946) (by decide +kernel)))
  | 2, hq => cases hq; exact u_known hts (fun w hw => (uw_2 w hw).1) (hts (.instantiable RJx4a65c 3) (List.mem_of_getElem? (i := 82) (by decide +kernel)))
  | 3, hq => cases hq; exact u_known hts (fun w hw => (uw_3 w hw).1) (hts (.instantiable RX0 10) (List.mem_of_getElem? (i := 154) (by decide +kernel)))
  | 4, hq => cases hq; exact u_known hts (fun w hw => (uw_4 w hw).1) (hts (.instantiable RX1 5) (List.mem_of_getElem? (i := 783) (by decide +kernel)))
  | 5, hq => cases hq; exact u_known hts (fun w hw => (uw_5 w hw).1) (hts (.instantiable RX2 6) (List.mem_of_getElem? (i := 563) (by decide +kernel)))
  | 6, hq => cases hq; exact u_known hts (fun w hw => (uw_6 w hw).1) (hts (.instantiable RX3 2) (List.mem_of_getElem? (i := 748) (by decide +kernel)))
  | 7, hq => cases hq; exact u_known hts (fun w hw => (uw_7 w hw).1) (hts (.instantiable RX5 3) (List.mem_of_getElem? (i := 704) (by decide +kernel)))
  | 8, hq => cases hq; exact u_known hts (fun w hw => (uw_8 w hw).1) (hts (.instantiable RX6 2) (List.mem_of_getElem? (i := 815) (by decide +kernel)))
  | 9, hq => cases hq; exact u_known hts (fun w hw => (uw_9 w hw).1) (hts (.instantiable RJ0 4) (List.mem_of_getElem? (i := 961) (by decide +kernel)))
  | 10, hq => cases hq; exact u_known hts (fun w hw => (uw_10 w hw).1) (hts (.instantiable RX8 7) (List.mem_of_getElem? (i := 108) (by decide +kernel)))
  | 11, hq => cases hq; exact u_known hts (fun w hw => (uw_11 w hw).1) (hts (.instantiable RX9 2) (List.mem_of_getElem? (i := 732) (by decide +kernel)))
  | 12, hq => cases hq; exact u_known hts (fun w hw => (uw_12 w hw).1) (hts (.instantiable RX10 2) (List.mem_of_getElem? (i := 191) (by decide +kernel)))
  | 13, hq => cases hq; exact u_known hts (fun w hw => (uw_13 w hw).1) (hts (.instantiable RX11 12) (List.mem_of_getElem? (i := 74) (by decide +kernel)))
  | 14, hq => cases hq; exact u_known hts (fun w hw => (uw_14 w hw).1) (hts (.instantiable RX12 9) (List.mem_of_getElem? (i := 426) (by decide +kernel)))
  | c + 15, hq => cases hq
def tyL : List FieldType := [.int, .boolean, .char, .object "java/lang/Object", .array .int]
theorem ee_arrays {s : State} {A : Array Value} (hts : ∀ w ∈ lw_tbl, w.before A s = true) : ∀ (k : Nat) (ty : FieldType), tyL[k]? = some ty → ∃ cA, ArrOfT s cA ty ∧ va_RA s cA ty := by
  intro k ty hq
  match k, hq with
  | 0, hq => cases hq; exact ee_arr (hts (.arrayClass .int) (List.mem_of_getElem? (i := 151) (by decide +kernel))) (fun C z => by cases z)
  | 1, hq => cases hq; exact ee_arr (hts (.arrayClass .boolean) (List.mem_of_getElem? (i := 152) (by decide +kernel))) (fun C z => by cases z)
  | 2, hq => cases hq; exact ee_arr (hts (.arrayClass .char) (List.mem_of_getElem? (i := 202) (by decide +kernel))) (fun C z => by cases z)
  | 3, hq => cases hq; exact ee_over (hts (.arrayOver (.object "java/lang/Object")) (List.mem_of_getElem? (i := 649) (by decide +kernel)))
  | 4, hq => cases hq; exact ee_overA (hts (.arrayOver (.array .int)) (List.mem_of_getElem? (i := 114) (by decide +kernel)))
  | k + 5, hq => cases hq
theorem ee_K {s : State} {A : Array Value} (hts : ∀ w ∈ lw_tbl, w.before A s = true) : ∃ (dC : Nat → ClassId) (dI : Nat → Nat → Nat) (aC : Nat → ClassId), va_K (dC, dI) vwCl [(aC 0, .int), (aC 1, .boolean), (aC 2, .char), (aC 3, .object "java/lang/Object"), (aC 4, .array .int)] s := by
  have h1 : ∀ c : Nat, ∃ p : ClassId × (Nat → Nat), ∀ q : vw_C, vwCl[c]? = some q → u_Kn s q.1 q.2.1 q.2.2 p.1 p.2 := fun (c : Nat) => by
    cases e : vwCl[c]? with
    | none => exact ⟨(0, fun _ => 0), fun q z => by cases z⟩
    | some q =>
      obtain ⟨a, b, h⟩ := ee_classes hts c q e
      exact ⟨(a, b), fun q2 z => by cases z; exact h⟩
  have h2 : ∀ k : Nat, ∃ cA : ClassId, ∀ ty : FieldType, tyL[k]? = some ty → ArrOfT s cA ty ∧ va_RA s cA ty := fun (k : Nat) => by
    cases e : tyL[k]? with
    | none => exact ⟨0, fun q z => by cases z⟩
    | some ty =>
      obtain ⟨a, h⟩ := ee_arrays hts k ty e
      exact ⟨a, fun q2 z => by cases z; exact h⟩
  refine ⟨fun c => (Classical.choose (h1 c)).1, fun c => (Classical.choose (h1 c)).2, fun k => Classical.choose (h2 k), fun c q hq => Classical.choose_spec (h1 c) q hq, fun k q hq => ?_⟩
  match k, hq with
  | 0, hq => cases hq; exact Classical.choose_spec (h2 0) _ rfl
  | 1, hq => cases hq; exact Classical.choose_spec (h2 1) _ rfl
  | 2, hq => cases hq; exact Classical.choose_spec (h2 2) _ rfl
  | 3, hq => cases hq; exact Classical.choose_spec (h2 3) _ rfl
  | 4, hq => cases hq; exact Classical.choose_spec (h2 4) _ rfl
  | k + 5, hq => cases hq
set_option maxRecDepth 100000 in
set_option maxHeartbeats 4000000 in
theorem ee_ctx {l : Launch} {s : State} {b L : Nat} {xs : Nat → Int32} (hflags : l.flags = flags0) (hts : ∀ w ∈ lw_tbl, w.before #[Value.ref b] s = true) (hgv : lw_gv.before #[Value.ref b] s = true) (hX : va_X b L xs s s.heap) (hbl : b < s.heap.size) : ∃ (dC : Nat → ClassId) (dI : Nat → Nat → Nat) (aC : Nat → ClassId) (gEm gMi : Nat), CTX (l, s, dC, dI, aC, gEm, gMi, b, L, xs) s := by
  have hs := flat_of_before _ hgv
  have hA : ∀ a : Nat, a < s.heap.size → ¬ (fun q : Nat => s.heap.size ≤ q) a := fun a h => Nat.not_le.mpr h
  obtain ⟨dC, dI, aC, hK⟩ := ee_K hts
  have hW : AWd s := fun w hw hp => ee_any hp (hts w hw)
  obtain ⟨gEm, hev, hT⟩ := va_Tof (N := 0) (f := fun _ => .null) (A := fun q : Nat => s.heap.size ≤ q) (tm := (Jvm.Term.static "java/util/ArrayList" "DEFAULTCAPACITY_EMPTY_ELEMENTDATA" "[Ljava/lang/Object;")) (ty := .object "java/lang/Object") (by decide) (hs _ (List.mem_of_getElem? (i := 5) (by decide +kernel))) (ee_len (n := 0) (hs _ (List.mem_of_getElem? (i := 7) (by decide +kernel)))) (fun j hj => absurd hj (Nat.not_lt_zero _)) hA
  have hZ := va_Zref (t := gEm) (hts _ (List.mem_of_getElem? (i := 94) (by decide +kernel))) (hts _ (List.mem_of_getElem? (i := 44) (by decide +kernel))) hev hA
  obtain ⟨gMi, hM⟩ := va_Mi.of (C := "[Ljava/lang/Object;") (hs _ (List.mem_of_getElem? (i := 117) (by decide +kernel)))
  refine ⟨dC, dI, aC, gEm, gMi, ⟨hK, hW, ?_, vx_Zqof (hts _ (List.mem_of_getElem? (i := 502) (by decide +kernel))) (hts _ (List.mem_of_getElem? (i := 50) (by decide +kernel))) (hs _ (List.mem_of_getElem? (i := 8) (by decide +kernel))) hA, vx_Zqof (hts _ (List.mem_of_getElem? (i := 504) (by decide +kernel))) (hts _ (List.mem_of_getElem? (i := 50) (by decide +kernel))) (hs _ (List.mem_of_getElem? (i := 9) (by decide +kernel))) hA, ?_, hZ, hT, hM, ?_, va_AO.of (hts _ (List.mem_of_getElem? (i := 649) (by decide +kernel))), ?_⟩, Nat.le_refl _, fun a _ => rfl, hX, hbl⟩
  · show l.stackTraces = false
    unfold Launch.stackTraces
    rw [hflags]
    decide
  · show ∀ q ∈ lw_strs, ∃ sa, vk_R q.1 q.2.1 q.2.2 sa s
    exact (List.forall_mem_cons.mpr ⟨ee_str (hts _ (List.mem_of_getElem? (i := 520) (by decide +kernel))), (List.forall_mem_cons.mpr ⟨ee_str (hts _ (List.mem_of_getElem? (i := 556) (by decide +kernel))), (List.forall_mem_cons.mpr ⟨ee_str (hts _ (List.mem_of_getElem? (i := 664) (by decide +kernel))), (List.forall_mem_cons.mpr ⟨ee_str (hts _ (List.mem_of_getElem? (i := 665) (by decide +kernel))), (List.forall_mem_cons.mpr ⟨ee_str (hts _ (List.mem_of_getElem? (i := 687) (by decide +kernel))), (List.forall_mem_cons.mpr ⟨ee_str (hts _ (List.mem_of_getElem? (i := 697) (by decide +kernel))), (List.forall_mem_cons.mpr ⟨ee_str (hts _ (List.mem_of_getElem? (i := 702) (by decide +kernel))), (List.forall_mem_cons.mpr ⟨ee_str (hts _ (List.mem_of_getElem? (i := 746) (by decide +kernel))), (List.forall_mem_cons.mpr ⟨ee_str (hts _ (List.mem_of_getElem? (i := 775) (by decide +kernel))), (List.forall_mem_cons.mpr ⟨ee_str (hts _ (List.mem_of_getElem? (i := 836) (by decide +kernel))), (List.forall_mem_cons.mpr ⟨ee_str (hts _ (List.mem_of_getElem? (i := 849) (by decide +kernel))), (List.forall_mem_cons.mpr ⟨ee_str (hts _ (List.mem_of_getElem? (i := 919) (by decide +kernel))), (List.forall_mem_cons.mpr ⟨ee_str (hts _ (List.mem_of_getElem? (i := 987) (by decide +kernel))), (List.forall_mem_cons.mpr ⟨ee_str (hts _ (List.mem_of_getElem? (i := 988) (by decide +kernel))), (List.forall_mem_cons.mpr ⟨ee_str (hts _ (List.mem_of_getElem? (i := 998) (by decide +kernel))), (List.forall_mem_cons.mpr ⟨ee_str (hts _ (List.mem_of_getElem? (i := 1006) (by decide +kernel))), (List.forall_mem_cons.mpr ⟨ee_str (hts _ (List.mem_of_getElem? (i := 1008) (by decide +kernel))), (List.forall_mem_cons.mpr ⟨ee_str (hts _ (List.mem_of_getElem? (i := 1034) (by decide +kernel))), (List.forall_mem_cons.mpr ⟨ee_str (hts _ (List.mem_of_getElem? (i := 1035) (by decide +kernel))), (List.forall_mem_cons.mpr ⟨ee_str (hts _ (List.mem_of_getElem? (i := 1066) (by decide +kernel))), (List.forall_mem_cons.mpr ⟨ee_str (hts _ (List.mem_of_getElem? (i := 1067) (by decide +kernel))), (List.forall_mem_cons.mpr ⟨ee_str (hts _ (List.mem_of_getElem? (i := 1080) (by decide +kernel))), (List.forall_mem_cons.mpr ⟨ee_str (hts _ (List.mem_of_getElem? (i := 1081) (by decide +kernel))), (List.forall_mem_cons.mpr ⟨ee_str (hts _ (List.mem_of_getElem? (i := 1098) (by decide +kernel))), (List.forall_mem_cons.mpr ⟨ee_str (hts _ (List.mem_of_getElem? (i := 1103) (by decide +kernel))), (List.forall_mem_cons.mpr ⟨ee_str (hts _ (List.mem_of_getElem? (i := 1124) (by decide +kernel))), (List.forall_mem_cons.mpr ⟨ee_str (hts _ (List.mem_of_getElem? (i := 1129) (by decide +kernel))), (fun _ h => absurd h List.not_mem_nil)⟩)⟩)⟩)⟩)⟩)⟩)⟩)⟩)⟩)⟩)⟩)⟩)⟩)⟩)⟩)⟩)⟩)⟩)⟩)⟩)⟩)⟩)⟩)⟩)⟩)⟩)⟩)
  · show ∀ q ∈ lw_ncs, va_Nc q.1 q.2 s
    exact (List.forall_mem_cons.mpr ⟨va_Nc.of (hs _ (List.mem_of_getElem? (i := 69) (by decide +kernel))), (List.forall_mem_cons.mpr ⟨va_Nc.of (hs _ (List.mem_of_getElem? (i := 71) (by decide +kernel))), (List.forall_mem_cons.mpr ⟨va_Nc.of (hs _ (List.mem_of_getElem? (i := 75) (by decide +kernel))), (List.forall_mem_cons.mpr ⟨va_Nc.of (hs _ (List.mem_of_getElem? (i := 79) (by decide +kernel))), (List.forall_mem_cons.mpr ⟨va_Nc.of (hs _ (List.mem_of_getElem? (i := 80) (by decide +kernel))), (List.forall_mem_cons.mpr ⟨va_Nc.of (hs _ (List.mem_of_getElem? (i := 51) (by decide +kernel))), (List.forall_mem_cons.mpr ⟨va_Nc.of (hs _ (List.mem_of_getElem? (i := 53) (by decide +kernel))), (List.forall_mem_cons.mpr ⟨va_Nc.of (hs _ (List.mem_of_getElem? (i := 57) (by decide +kernel))), (List.forall_mem_cons.mpr ⟨va_Nc.of (hs _ (List.mem_of_getElem? (i := 61) (by decide +kernel))), (List.forall_mem_cons.mpr ⟨va_Nc.of (hs _ (List.mem_of_getElem? (i := 62) (by decide +kernel))), (List.forall_mem_cons.mpr ⟨va_Nc.of (hs _ (List.mem_of_getElem? (i := 34) (by decide +kernel))), (List.forall_mem_cons.mpr ⟨va_Nc.of (hs _ (List.mem_of_getElem? (i := 35) (by decide +kernel))), (List.forall_mem_cons.mpr ⟨va_Nc.of (hs _ (List.mem_of_getElem? (i := 40) (by decide +kernel))), (List.forall_mem_cons.mpr ⟨va_Nc.of (hs _ (List.mem_of_getElem? (i := 43) (by decide +kernel))), (List.forall_mem_cons.mpr ⟨va_Nc.of (hs _ (List.mem_of_getElem? (i := 44) (by decide +kernel))), (List.forall_mem_cons.mpr ⟨va_Nc.of (hs _ (List.mem_of_getElem? (i := 16) (by decide +kernel))), (List.forall_mem_cons.mpr ⟨va_Nc.of (hs _ (List.mem_of_getElem? (i := 17) (by decide +kernel))), (List.forall_mem_cons.mpr ⟨va_Nc.of (hs _ (List.mem_of_getElem? (i := 19) (by decide +kernel))), (List.forall_mem_cons.mpr ⟨va_Nc.of (hs _ (List.mem_of_getElem? (i := 26) (by decide +kernel))), (List.forall_mem_cons.mpr ⟨va_Nc.of (hs _ (List.mem_of_getElem? (i := 27) (by decide +kernel))), (List.forall_mem_cons.mpr ⟨va_Nc.of (hs _ (List.mem_of_getElem? (i := 87) (by decide +kernel))), (List.forall_mem_cons.mpr ⟨va_Nc.of (hs _ (List.mem_of_getElem? (i := 88) (by decide +kernel))), (List.forall_mem_cons.mpr ⟨va_Nc.of (hs _ (List.mem_of_getElem? (i := 90) (by decide +kernel))), (List.forall_mem_cons.mpr ⟨va_Nc.of (hs _ (List.mem_of_getElem? (i := 94) (by decide +kernel))), (List.forall_mem_cons.mpr ⟨va_Nc.of (hs _ (List.mem_of_getElem? (i := 98) (by decide +kernel))), (List.forall_mem_cons.mpr ⟨va_Nc.of (hs _ (List.mem_of_getElem? (i := 105) (by decide +kernel))), (List.forall_mem_cons.mpr ⟨va_Nc.of (hs _ (List.mem_of_getElem? (i := 106) (by decide +kernel))), (List.forall_mem_cons.mpr ⟨va_Nc.of (hs _ (List.mem_of_getElem? (i := 108) (by decide +kernel))), (List.forall_mem_cons.mpr ⟨va_Nc.of (hs _ (List.mem_of_getElem? (i := 112) (by decide +kernel))), (List.forall_mem_cons.mpr ⟨va_Nc.of (hs _ (List.mem_of_getElem? (i := 116) (by decide +kernel))), (fun _ h => absurd h List.not_mem_nil)⟩)⟩)⟩)⟩)⟩)⟩)⟩)⟩)⟩)⟩)⟩)⟩)⟩)⟩)⟩)⟩)⟩)⟩)⟩)⟩)⟩)⟩)⟩)⟩)⟩)⟩)⟩)⟩)⟩)⟩)
  · exact hts (.arrayOver (.array .int)) (List.mem_of_getElem? (i := 114) (by decide +kernel))
/-- THE LAW'S CONTRACT, over its entry -/
theorem ee_law {g : Gt} (hl : (gX g).2.1 ≤ 260) : Ct g M_L_law 2048 [.ref (gX g).1] (fun _ => none) 708917 6963016 (fun r _ => r = .inl (some (.int (J 1)))) :=
  ct_of_ev rfl rfl (ls := [some (.ref (gX g).1), none, none, none, none, none]) rfl (Nat.le_of_ble_eq_true rfl) (lw_entry hl (fun _ => rfl))
theorem ee_room {pl : Platform} {s : State} (h : s.hasRoom pl room_1 = true) : s.hasRoom pl (rmD 2048 708917 6963016) = true := by
  have e1 : room_1.frames = 2048 := rfl
  have e2 : room_1.cells = 708917 := rfl
  have e3 : room_1.slots = 6963016 := rfl
  have e4 : room_1.locals = 94400 := rfl
  have f1 : (rmD 2048 708917 6963016).frames = 2048 := rfl
  have f2 : (rmD 2048 708917 6963016).cells = 708917 := rfl
  have f3 : (rmD 2048 708917 6963016).slots = 6963016 := rfl
  have f4 : (rmD 2048 708917 6963016).locals = 94208 := rfl
  simp only [State.hasRoom, Bool.and_eq_true, decide_eq_true_eq, e1, e2, e3, e4] at h
  simp only [State.hasRoom, Bool.and_eq_true, decide_eq_true_eq, f1, f2, f3, f4]
  obtain ⟨⟨⟨⟨h1, h2, h3, h4, h5, h6⟩, h7⟩, h8⟩, h9⟩ := h
  exact ⟨⟨⟨⟨by omega, by omega, by omega, by omega, by omega, h6⟩, by omega⟩, by omega⟩, h9⟩
def lw_P (b : Addr) (xs : List Int32) (args : Array Value) (s : State) : Prop := args = #[.ref b] ∧ s.IntsAt b xs ∧ xs.length ≤ 260 ∧ (Jvm.Cond.and given_1 narrow_1).before args s = true
def lw_Q (_ : Array Value) (s : State) (o : Outcome) (t : State) : Prop := o = .returned (some (.int 1)) ∧ Framed s o t [] 708917 6963016
theorem ee_forget {s s' : State} {L : List Loc} {k n : Nat} (h : s.sameButNew s' L k n) (hL : ∀ x ∈ L, s.heap.size ≤ x.base) : s.sameButNew s' [] k n := by
  obtain ⟨h1, h2, h3, h4, h5, h6⟩ := h
  refine ⟨h1, h2, h3, h4, h5, fun a c hc => ?_⟩
  obtain ⟨c', hc', hce, hsz, hout⟩ := h6 a c hc
  refine ⟨c', hc', hce, hsz, fun i hi => hout i (fun hmem => ?_)⟩
  exact absurd (Array.getElem?_eq_some_iff.mp hc).1 (Nat.not_lt.mpr (hL _ hmem))
set_option maxHeartbeats 4000000 in
theorem lw_walk (l : Launch) (hflags : l.flags = flags0) (b : Addr) (xs : List Int32) : MetFree l x (headSpec (Jvm.Cond.code x code maxLocals ret :: tables_1) room_1) (lw_P b xs) (fun _ _ _ _ _ => True) lw_Q := by
  intro p e ha hcas hck s m args below hf happ hP _
  obtain ⟨rfl, hx, hbd, hgv⟩ := hP
  obtain ⟨a1, a2, a3, a4, a5, a6, a7, a8⟩ := (Spec.appliesLoose_iff hf).mp happ
  have hts0 : ∀ c ∈ (Jvm.Cond.code x code maxLocals ret :: tables_1), c.before #[Value.ref b] s = true := atoms_spec (ws := Jvm.Cond.code x code maxLocals ret :: tables_1) a8
  have hts : ∀ w ∈ lw_tbl, w.before #[Value.ref b] s = true := k2_hts_sels lw_privs (fun w hw => hts0 w (List.mem_cons_of_mem _ hw)) lw_privs_ok
  obtain ⟨scr, harrAt, hlist, hof, hsmall⟩ := hx
  obtain ⟨hcb, hkn, -, -⟩ := State.arrayAt?_spec harrAt
  have hsz : scr.slots.size = xs.length := by rw [← Array.length_toList, hlist, List.length_map]
  have hval : ∀ j : Nat, j < xs.length → scr.slots[j]? = some (.int (xs.getD j 0)) := fun j hj => by
    rw [← Array.getElem?_toList, hlist]
    simp [hj]
  have hbl : b < s.heap.size := (Array.getElem?_eq_some_iff.mp hcb).1
  have hX : va_X b xs.length (fun j => xs.getD j 0) s s.heap := ⟨scr, hcb, hof, hkn, hsz, hval⟩
  obtain ⟨dC, dI, aC, gEm, gMi, hC⟩ := ee_ctx (l := l) hflags hts hgv hX hbl
  have hct := ee_law (g := (l, s, dC, dI, aC, gEm, gMi, b, xs.length, fun j => xs.getD j 0)) hbd
  have hap : (headSpec (mWs M_L_law) (rmD 2048 708917 6963016)).appliesLoose (mY M_L_law) e.platform s = true := by
    refine (Spec.appliesLoose_iff hf).mpr ⟨a1, a2, a3, a4, a5, a6, ee_room a7, ?_⟩
    show (allAtoms (mWs M_L_law)).before #[Value.ref b] s = true
    exact atoms_intro (fun w hw => by rw [List.mem_singleton.mp hw]; exact hts0 _ List.mem_cons_self)
  obtain ⟨n, o, h1, h2, h3, hq⟩ := hct p e ha hcas hck s m #[Value.ref b] below hf hap ⟨rfl, hC, fun a c z => by cases z⟩ trivial
  refine ⟨n, o, h1, h2, h3, ?_⟩
  rcases hq with ⟨⟨⟨v, h', rfl, hv, -⟩, -⟩, L, hE, hL⟩ | ⟨q, rfl, E, ce, L, ⟨⟨h', hv, -⟩, -⟩, -⟩
  · obtain ⟨rfl⟩ : v = some (.int 1) := by cases hv; rfl
    exact ⟨rfl, ⟨_, rfl⟩, hE.2.1, ee_forget hE.2.2 (fun x hx => hL x hx)⟩
  · cases hv
theorem lw_pre_spec {args : Array Value} {s : State} (h : (Jvm.Cond.and given_1 narrow_1).before args s = true) (hr : rest_1_c.before args s = true) : ∃ (b : Addr) (xs : List Int32), lw_P b xs args s := by
  have hs := flat_of_before _ h
  have hq := flat_of_before _ hr
  have hc : (Cond.count 1).before args s = true := hs _ (by decide +kernel)
  have harr : (Cond.arrayOf (.arg 0) .int).before args s = true := hs _ (by decide +kernel)
  have hle : (Cond.le (.length (.arg 0)) (.int 260)).before args s = true := hs _ (by decide +kernel)
  have hlen : (Cond.isInt (.length (.arg 0))).before args s = true := hq _ (by decide +kernel)
  have hall : (Cond.all (.arg 0) (.isInt (.elem (.arg 0) (.index 0)))).before args s = true := hq _ (by decide +kernel)
  obtain ⟨b, xs, hb, hx⟩ := State.ints_of_pre rfl harr hlen hall
  have hsm : xs.length < 2 ^ 31 := hx.choose_spec.2.2.2
  have hev : (Term.length (.arg 0)).eval args s none [] s = some (.int xs.length.toInt32) := hx.length_eval hb
  have hv := Cond.le_ints hev (show (Term.int 260).eval args s none [] s = some (.int 260) from rfl)
  have hd : xs.length.toInt32 ≤ 260 := by
    simpa [Cond.before, Cond.holds, hv] using hle
  have hN : xs.length ≤ 260 := (Int32.ofNat_le_ofNat hsm (by decide)).mp (show Int32.ofNat xs.length ≤ Int32.ofNat 260 from hd)
  exact ⟨b, xs, Cond.one_arg hc (show args[0]? = some (.ref b) from hb), hx, hN, h⟩
theorem lw_comes (l : Launch) (hflags : l.flags = flags0) : Comes l x (Jvm.Cond.code x code maxLocals ret :: tables_1) room_1 (fun tb e args s => Calls_1 tb e args s ∧ rest_1 tb e args s ∧ Pre_1 tb e args s)
    (fun _ _ args s o t => lw_Q args s o t) := by
  intro p e ha hc hk s m args below hf hfit hheap happ hpre
  obtain ⟨b, xs, hP⟩ := lw_pre_spec hpre.2.2 hpre.2.1
  obtain ⟨k, o, h1, h2, h3, hQ⟩ := lw_walk l hflags b xs p e ha hc hk s m args below hf ((Spec.applies_iff_loose hf).mp happ).1 hP trivial
  exact ⟨k, o, h1, h2, h3, hQ⟩
theorem lw_frame {s t : State} {o : Outcome} {args : Array Value} (h : Framed s o t [] 708917 6963016) :
    Framed s o t (fieldLocs frame_1_writes args s ++ arrayLocs frame_1_arrays args s ++ staticLocs frame_1_statics s) 708917 6963016 := h
theorem lw_limb (L : Cond) (hL : ∀ (args : Array Value) (s t : State), L.after args s (.returned (some (.int 1))) t = true) :
    ArmFor flags0 classFile x code maxLocals ret World_1 tables_1 room_1 Calls_1 rest_1 Pre_1
      (fun tb e a s o t => postC L tb e a s o t ∧ Framed s o t (fieldLocs frame_1_writes a s ++ arrayLocs frame_1_arrays a s ++ staticLocs frame_1_statics s) 708917 6963016) := by
  intro l hflags _ _ p e ha hc hk s m args below hf hfit hheap happ hpre
  obtain ⟨k, o, h1, h2, h3, rfl, hF⟩ := lw_comes l hflags p e ha hc hk s m args below hf hfit hheap happ hpre
  exact ⟨k, _, h1, h2, h3, hL args s _, lw_frame hF⟩
theorem i_vc : Claimed_1_1 ∧ Claimed_1_2 := ⟨lw_limb limb_1_1 (fun args s t => by simp [limb_1_1, Cond.after, Cond.holds, Cond.value]), lw_limb limb_1_2 (fun args s t => Cond.after_iff.mpr (by
  first | (rw [show limb_1_2 = Cond.eq .result (.int 1) from rfl, Cond.eq_ints (x := 1) (y := 1) rfl rfl]; simp; done) | (simp [limb_1_2, Cond.value, Term.eval]; done)))⟩
