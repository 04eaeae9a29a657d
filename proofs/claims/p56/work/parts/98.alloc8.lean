/-! A LIST OF THE MEMORY TAKES ONE MORE -/
section AL8
variable {g : Gt} {α : AL} {ν : Nat → Nat → Bool} {X : XM} {h h' : AH}
def alQ (α : AL) (i q : Nat) : AL := fun k j => if k = 2 ∧ j = i then q else α k j
theorem gk_2 {k j i : Nat} (e : gk k j = (2, i)) : k = 2 ∧ j = i := by
  unfold gk at e
  (repeat' split at e) <;> (simp only [Prod.mk.injEq] at e <;> omega)
theorem TR.list {i q : Nat} {Y L1 : Nat → Int} (hT : TR g α ν X h) (hC : CLO ν X) (hv : vk ν 1 i = true) (hq : (h q = none ∧ gB g ≤ q) ∨ (q = α 2 i ∧ ν 2 i = true)) (hb1 : h' (α 1 i) = some (.inr (2, [.int (J (L1 0)), .ref q, .int (J (L1 2))]))) (hL1 : L1 1 ≠ 0) (hq2 : h' q = some (ob (Y 0).toNat (fun j => el α (ek i) (Y (j + 1))))) (ho : ∀ x, x ≠ α 1 i → x ≠ q → h' x = h x) (hrY : ∀ j, R31 (Y j)) (hrL : ∀ j, R31 (L1 j)) : TR g (alQ α i q) (nuG ν (2, i)) (xw (xw X 1 i L1) 2 i Y) h' := by
  have hA : ∀ k j, ¬ (k = 2 ∧ j = i) → alQ α i q k j = α k j := fun k j n => if_neg n
  have hqne : ∀ k j, vk ν k j = true → ¬ (k = 2 ∧ j = i) → α k j ≠ q := fun k j hv' n e => by
    rcases hq with ⟨h0, -⟩ | ⟨h0, hn2⟩
    · have := (hT.1 k j hv').1
      rw [e, h0] at this
      cases this
    · exact n (hT.2.1 k j 2 i hv' (tv2 hT hn2) (e.trans h0))
  have hgq : gB g ≤ q := by
    rcases hq with ⟨-, h0⟩ | ⟨h0, hn2⟩
    · exact h0
    · rw [h0]; exact (hT.1 2 i (tv2 hT hn2)).2
  have hold : ∀ k j, vk (nuG ν (2, i)) k j = true → ¬ (k = 2 ∧ j = i) → vk ν k j = true := fun k j hv' n => by
    rw [vk_nuG (fun e => n (gk_2 e))] at hv'
    exact hv'
  refine ⟨fun k j hv' => ?_, fun k j k' j' hv1 hv2 e => ?_, fun k j t h91 => ?_, nuG_old hT.2.2.2⟩
  · by_cases n : k = 2 ∧ j = i
    · obtain ⟨rfl, rfl⟩ := n
      have e : alQ α j q 2 j = q := if_pos ⟨rfl, rfl⟩
      rw [e, xw_at, hq2]
      refine ⟨congrArg some ?_, hgq⟩
      show _ = ck2 g (alQ α j q) j Y
      unfold ck2
      refine congrArg (fun f => (Sum.inl (3, (Y 0).toNat, .inr (.inr (.inr (.inr f)))) : AC)) (funext fun t => ?_)
      unfold el
      rw [hA _ _ (fun z => ek_n2 j z.1)]
    · rw [hA k j n, xw_ne n]
      by_cases n1 : k = 1 ∧ j = i
      · obtain ⟨rfl, rfl⟩ := n1
        rw [xw_at, hb1]
        refine ⟨congrArg some ?_, (hT.1 1 j hv).2⟩
        show _ = ck1 g (alQ α j q) j L1
        unfold ck1
        rw [if_neg hL1, show alQ α j q 2 j = q from if_pos ⟨rfl, rfl⟩]
      · have hv0 := hold k j hv' n
        have := hT.1 k j hv0
        rw [xw_ne n1, cellK_cg (g := g) (α := α) hC (fun k' j' n2 _ => hA k' j' (fun z => n2 z.1)) k j hv0 (fun e1 _ => hA 2 j (fun z => n1 ⟨e1, z.2⟩))]
        refine ⟨?_, this.2⟩
        rw [ho _ (fun e => n1 (hT.2.1 k j 1 i hv0 hv e)) (hqne k j hv0 n)]
        exact this.1
  · by_cases n : k = 2 ∧ j = i
    · by_cases n' : k' = 2 ∧ j' = i
      · exact ⟨n.1.trans n'.1.symm, n.2.trans n'.2.symm⟩
      · rw [hA k' j' n', show alQ α i q k j = q from if_pos n] at e
        exact absurd e.symm (hqne k' j' (hold k' j' hv2 n') n')
    · by_cases n' : k' = 2 ∧ j' = i
      · rw [hA k j n, show alQ α i q k' j' = q from if_pos n'] at e
        exact absurd e (hqne k j (hold k j hv1 n) n)
      · rw [hA k j n, hA k' j' n'] at e
        exact hT.2.1 k j k' j' (hold k j hv1 n) (hold k' j' hv2 n') e
  · by_cases n : k = 2 ∧ j = i
    · obtain ⟨rfl, rfl⟩ := n
      rw [xw_at]; exact hrY t
    · rw [xw_ne n]
      by_cases n1 : k = 1 ∧ j = i
      · obtain ⟨rfl, rfl⟩ := n1
        rw [xw_at]; exact hrL t
      · rw [xw_ne n1]; exact hT.rng k j t h91
theorem OBJ.hup {b e : Nat} {m m2 : Int32} {x x2 : Nat} {s s2 : Int} (hl : h b = some (ls2 m x s)) (ho : OBJ h e) : OBJ (hup h b (ls2 m2 x2 s2)) e := by
  obtain ⟨ci, vs, C, f1, f2, f3⟩ := ho
  by_cases c : e = b
  · subst c
    rw [hl] at f1
    cases f1
    exact ⟨2, _, C, hup_eq _ _ _, f2, f3⟩
  · exact ⟨ci, vs, C, by rw [hup_ne c]; exact f1, f2, f3⟩
theorem obj_ek (hT : TR g α ν X h) {i e : Nat} (hv : vk ν (ek i) e = true) : OBJ h (α (ek i) e) := by
  have h1 := (hT.1 _ _ hv).1
  unfold OBJ
  rw [h1]
  clear h1 hv
  unfold ek
  by_cases h0 : i = 0
  · rw [if_pos h0]
    exact ⟨5, _, _, rfl, rfl, cas_Course⟩
  · rw [if_neg h0]
    by_cases h2 : i = 2
    · rw [if_pos h2]
      show ∃ ci vs C, some (fcell (X 16 e)) = _ ∧ _
      unfold fcell
      by_cases c0 : X 16 e 9 = 0
      · rw [if_pos c0]; exact ⟨7, _, _, rfl, rfl, cas_MarkFormula⟩
      · rw [if_neg c0]
        by_cases c1 : X 16 e 9 = 1
        · rw [if_pos c1]; exact ⟨11, _, _, rfl, rfl, cas_TogetherFormula⟩
        · rw [if_neg c1]
          by_cases c2 : X 16 e 9 = 2
          · rw [if_pos c2]; exact ⟨6, _, _, rfl, rfl, cas_CreditsFormula⟩
          · rw [if_neg c2]
            by_cases c3 : X 16 e 9 = 3
            · rw [if_pos c3]; exact ⟨4, _, _, rfl, rfl, cas_CountFormula⟩
            · rw [if_neg c3]; exact ⟨8, _, _, rfl, rfl, cas_NoneFormula⟩
    · rw [if_neg h2]
      by_cases h3 : i = 3
      · rw [if_pos h3]
        exact ⟨9, _, _, rfl, rfl, cas_Rule⟩
      · rw [if_neg h3]
        exact ⟨10, _, _, rfl, rfl, cas_S⟩
/-- list i has e behind its elements, and is else as it was -/
def ADD (α : AL) (ν : Nat → Nat → Bool) (X : XM) (i e : Nat) (α' : AL) (ν' : Nat → Nat → Bool) (X' : XM) : Prop :=
  (∀ k j, ¬ (k = 2 ∧ j = i) → α' k j = α k j) ∧ ν' = nuG ν (2, i) ∧ (∀ k j, ¬ (k = 1 ∧ j = i) → ¬ (k = 2 ∧ j = i) → X' k j = X k j) ∧ X' 1 i 1 ≠ 0 ∧ X' 1 i 2 = X 1 i 2 + 1 ∧ (X 1 i 2 + 1 ≤ X' 2 i 0 ∧ X' 2 i 0 ≤ 1000) ∧ X' 2 i ((X 1 i 2).toNat + 1) = e ∧ (∀ j : Nat, (j : Int) < X 1 i 2 → X' 2 i (j + 1) = X 2 i (j + 1)) ∧ ∀ j : Nat, X 1 i 2 < j → X' 2 i (j + 1) < 0 ∨ (ν 2 i = true ∧ X' 2 i (j + 1) = X 2 i (j + 1))
def L1f (X : XM) (i : Nat) (s : Nat) : Nat → Int := fun t => if t = 0 then wr (X 1 i 0 + 1) else if t = 1 then 1 else if t = 2 then (s : Int) + 1 else X 1 i t
/-- what stands in the array, with rest beyond -/
def Yf (X : XM) (i : Nat) (s n1 e : Nat) (b : Bool) : Nat → Int := fun t => if t = 0 then (n1 : Int) else if t = s + 1 then (e : Int) else if t ≤ s then X 2 i t else if b = true then X 2 i t else -1
theorem ADD.mk' {i q s n1 e : Nat} {b : Bool} (hs : X 1 i 2 = (s : Int)) (hn : s + 1 ≤ n1 ∧ n1 ≤ 1000) (hb : b = true → ν 2 i = true) : ADD α ν X i e (alQ α i q) (nuG ν (2, i)) (xw (xw X 1 i (L1f X i s)) 2 i (Yf X i s n1 e b)) := by
  have h12 : ¬ ((1 : Nat) = 2 ∧ i = i) := by omega
  have e1 : xw (xw X 1 i (L1f X i s)) 2 i (Yf X i s n1 e b) 1 i = L1f X i s := by rw [xw_ne h12, xw_at]
  have e2 : xw (xw X 1 i (L1f X i s)) 2 i (Yf X i s n1 e b) 2 i = Yf X i s n1 e b := xw_at _ _ _ _
  refine ⟨fun k j n => if_neg n, rfl, fun k j n1 n2 => by rw [xw_ne n2, xw_ne n1], ?_, ?_, ?_, ?_, ?_, ?_⟩
  · rw [e1]; show (1 : Int) ≠ 0; decide
  · rw [e1, hs]; rfl
  · rw [e2, hs]; show (s : Int) + 1 ≤ (n1 : Int) ∧ (n1 : Int) ≤ 1000; omega
  · rw [e2, hs, Int.toNat_natCast]
    unfold Yf
    rw [if_neg (by omega), if_pos rfl]
  · intro j hj
    rw [e2]
    unfold Yf
    rw [if_neg (by omega), if_neg (by omega), if_pos (by omega)]
  · intro j hj
    rw [e2]
    unfold Yf
    rw [if_neg (by omega), if_neg (by omega), if_neg (by omega)]
    cases b with
    | true => exact Or.inr ⟨hb rfl, rfl⟩
    | false =>
      refine Or.inl ?_
      rw [if_neg (by decide)]
      decide
theorem R31_L1 (hT : TR g α ν X h) {i s : Nat} (hs : s ≤ 1000) : ∀ j, R31 (L1f X i s j) := fun j => by
  unfold L1f
  by_cases c0 : j = 0
  · rw [if_pos c0]; exact R31_wr _
  · rw [if_neg c0]
    by_cases c1 : j = 1
    · rw [if_pos c1]; exact ⟨by decide, by decide⟩
    · rw [if_neg c1]
      by_cases c2 : j = 2
      · rw [if_pos c2]; exact ⟨by omega, by omega⟩
      · rw [if_neg c2]; exact hT.rng _ _ _
theorem R31_Y (hT : TR g α ν X h) {i s n1 e : Nat} {b : Bool} (hn : n1 ≤ 1000) (he : e < 1000) : ∀ j, R31 (Yf X i s n1 e b j) := fun j => by
  unfold Yf
  by_cases c0 : j = 0
  · rw [if_pos c0]; exact ⟨by omega, by omega⟩
  · rw [if_neg c0]
    by_cases c1 : j = s + 1
    · rw [if_pos c1]; exact ⟨by omega, by omega⟩
    · rw [if_neg c1]
      by_cases c2 : j ≤ s
      · rw [if_pos c2]; exact hT.rng _ _ _
      · rw [if_neg c2]
        by_cases c3 : b = true
        · rw [if_pos c3]; exact hT.rng _ _ _
        · rw [if_neg c3]; exact ⟨by decide, by decide⟩
theorem el_n {α : AL} {k : Nat} (e : Nat) : el α k (e : Int) = some (α k e) := el_of rfl
theorem c_add {i e : Nat} (hT : TR g α ν X h) (hC : CLO ν X) (hL : LW ν X i) (h60 : X 1 i 2 ≤ 60) (hcap : X 1 i 1 ≠ 0 → 1 ≤ X 2 i 0) (he : vk ν (ek i) e = true) (he1 : e < 1000) : Al g M_Jx4a65c_add_9ea2d 9 [.ref (α 1 i), .ref (α (ek i) e)] h 1 100 (some (.int (J 1))) (fun α' ν' X' => ADD α ν X i e α' ν' X') := by
  obtain ⟨hv, hL1, hL2, hL3, hL4⟩ := hL
  obtain ⟨s, hs⟩ : ∃ s : Nat, X 1 i 2 = (s : Int) := ⟨(X 1 i 2).toNat, by omega⟩
  have hb := (hT.1 1 i hv).2
  have ho := obj_ek hT he
  have w0 : (J (X 1 i 0) + 1 : Int32) = J (wr (X 1 i 0 + 1)) := by
    rw [← J_wr, ← J_add]
    rfl
  by_cases hz : X 1 i 1 = 0
  · have hs0 : s = 0 := by have := hL2 hz; omega
    subst hs0
    have hl : h (α 1 i) = some (ls2 (J (X 1 i 0)) (gE g) ((0 : Nat) : Int)) := by
      have := (hT.1 1 i hv).1
      rw [show cellK g α 1 i (X 1 i) = ck1 g α i (X 1 i) from rfl] at this
      unfold ck1 at this
      rw [if_pos hz, hs] at this
      exact this
    refine ct_weaken (k_add (s := 0) hl hb (k_add3E (F := fun _ => none) rfl (hup_eq _ _ _) hb (OBJ.hup hl ho))) (fun r h' hq => ?_)
    obtain ⟨e1, q, n1, hq, hgq, g1, g2, rfl⟩ := hq
    refine ⟨e1, _, _, _, TR.list (i := i) (q := q) (Y := Yf X i 0 n1 e false) (L1 := L1f X i 0) hT hC hv (Or.inl ⟨?_, hgq⟩) ?_ (by show (1 : Int) ≠ 0; decide) ?_ (fun x n1' n2 => ?_) (R31_Y hT (by omega) he1) (R31_L1 hT (by omega)), ADD.mk' hs ⟨g1, by omega⟩ (fun z => nomatch z)⟩
    · rw [hup_ne (fun z => by rw [z, hup_eq] at hq; cases hq)] at hq; exact hq
    · rw [hup_eq, w0]; rfl
    · have hbq : q ≠ α 1 i := fun z => by rw [z, hup_eq] at hq; cases hq
      rw [hup_ne hbq, hup_eq]
      refine congrArg (fun f => some (Sum.inl (3, n1, .inr (.inr (.inr (.inr f)))) : AC)) (funext fun j => ?_)
      unfold va_up Yf
      by_cases c : j = 0
      · subst c
        rw [if_pos rfl, if_neg (by omega), if_pos rfl]
        exact (el_n e).symm
      · rw [if_neg c]
        show (if j < 0 then none else none) = _
        rw [if_neg (show ¬ j < 0 by omega), if_neg (show ¬ j + 1 = 0 by omega), if_neg (show ¬ j + 1 = 0 + 1 by omega), if_neg (show ¬ j + 1 ≤ 0 by omega), if_neg (show ¬ false = true by decide)]
        rfl
    · rw [hup_ne n1', hup_ne n2, hup_ne n1']
  · obtain ⟨hn2, hcp⟩ := hL1 hz
    have h2 := hT.1 2 i (tv2 hT hn2)
    have hc1 := hcap hz
    obtain ⟨n0, hn0⟩ : ∃ n0 : Nat, X 2 i 0 = (n0 : Int) := ⟨(X 2 i 0).toNat, by omega⟩
    have hl : h (α 1 i) = some (ls2 (J (X 1 i 0)) (α 2 i) (s : Int)) := by
      have := (hT.1 1 i hv).1
      rw [show cellK g α 1 i (X 1 i) = ck1 g α i (X 1 i) from rfl] at this
      unfold ck1 at this
      rw [if_neg hz, hs] at this
      exact this
    have ha : h (α 2 i) = some (ob n0 (fun j => el α (ek i) (X 2 i (j + 1)))) := by
      have := h2.1
      rw [show cellK g α 2 i (X 2 i) = ck2 g α i (X 2 i) from rfl] at this
      unfold ck2 at this
      rw [hn0, Int.toNat_natCast] at this
      exact this
    have hab : α 2 i ≠ α 1 i := fun z => by rw [z, hl] at ha; cases ha
    have hel : ∀ j y, j < s → el α (ek i) (X 2 i (j + 1)) = some y → OBJ h y := fun j y hj hy => by
      unfold el at hy
      by_cases c : X 2 i (j + 1) < 0
      · rw [if_pos c] at hy; cases hy
      · rw [if_neg c] at hy
        cases hy
        exact obj_ek hT (hC.2.2.2.2 i j hn2 (by omega))
    by_cases hfull : s < n0
    · refine ct_weaken (k_add (s := s) hl hb (k_add3N (F := fun j => el α (ek i) (X 2 i (j + 1))) (n1 := n0) (hup_eq _ _ _) hb (by rw [hup_ne hab]; exact ha) h2.2 hfull (by omega) (OBJ.hup hl ho))) (fun r h' hq => ?_)
      obtain ⟨e1, rfl⟩ := hq
      refine ⟨e1, _, _, _, TR.list (i := i) (q := α 2 i) (Y := Yf X i s n0 e true) (L1 := L1f X i s) hT hC hv (Or.inr ⟨rfl, hn2⟩) ?_ (by show (1 : Int) ≠ 0; decide) ?_ (fun x n1' n2 => ?_) (R31_Y hT (by omega) he1) (R31_L1 hT (by omega)), ADD.mk' hs ⟨by omega, by omega⟩ (fun _ => hn2)⟩
      · rw [hup_eq, w0]; rfl
      · rw [hup_ne hab, hup_eq]
        refine congrArg (fun f => some (Sum.inl (3, n0, .inr (.inr (.inr (.inr f)))) : AC)) (funext fun j => ?_)
        unfold va_up Yf
        by_cases c : j = s
        · subst c
          rw [if_pos rfl, if_neg (by omega), if_pos rfl]
          exact (el_n e).symm
        · rw [if_neg c, if_neg (by omega), if_neg (by omega)]
          by_cases c2 : j + 1 ≤ s
          · rw [if_pos c2]
          · rw [if_neg c2, if_pos rfl]
      · rw [hup_ne n1', hup_ne n2, hup_ne n1']
    · have hsn : n0 = s := by omega
      subst hsn
      refine ct_weaken (k_add (s := n0) hl hb (k_add3F (F := fun j => el α (ek i) (X 2 i (j + 1))) (hup_eq _ _ _) hb (by rw [hup_ne hab]; exact ha) h2.2 (by omega) (by omega) (fun j y hj hy => OBJ.hup hl (hel j y hj hy)) (OBJ.hup hl ho))) (fun r h' hq => ?_)
      obtain ⟨e1, q, n1, hq, hgq, g1, g2, rfl⟩ := hq
      refine ⟨e1, _, _, _, TR.list (i := i) (q := q) (Y := Yf X i n0 n1 e false) (L1 := L1f X i n0) hT hC hv (Or.inl ⟨?_, hgq⟩) ?_ (by show (1 : Int) ≠ 0; decide) ?_ (fun x n1' n2 => ?_) (R31_Y hT (by omega) he1) (R31_L1 hT (by omega)), ADD.mk' hs ⟨g1, by omega⟩ (fun z => nomatch z)⟩
      · rw [hup_ne (fun z => by rw [z, hup_eq] at hq; cases hq)] at hq; exact hq
      · rw [hup_eq, w0]; rfl
      · have hbq : q ≠ α 1 i := fun z => by rw [z, hup_eq] at hq; cases hq
        rw [hup_ne hbq, hup_eq]
        refine congrArg (fun f => some (Sum.inl (3, n1, .inr (.inr (.inr (.inr f)))) : AC)) (funext fun j => ?_)
        unfold va_up Yf
        by_cases c : j = n0
        · subst c
          rw [if_pos rfl, if_neg (by omega), if_pos rfl]
          exact (el_n e).symm
        · rw [if_neg c, if_neg (by omega), if_neg (by omega)]
          show (if j < n0 then _ else _) = _
          by_cases c2 : j + 1 ≤ n0
          · rw [if_pos c2, if_pos (show j < n0 by omega)]
          · rw [if_neg c2, if_neg (show ¬ j < n0 by omega), if_neg (show ¬ false = true by decide)]
            rfl
      · rw [hup_ne n1', hup_ne n2, hup_ne n1']
end AL8
