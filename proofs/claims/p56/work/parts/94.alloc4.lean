/-! NEW CELLS COME INTO THE MEMORY -/
section AL5
variable {g : Gt} {α α' : AL} {ν : Nat → Nat → Bool} {X : XM} {h h1 h2 h' : AH} {Z Z2 : List (Nat × AC)}
/-- the new cells Z over h -/
def FR (g : Gt) (h h' : AH) (Z : List (Nat × AC)) : Prop := (∀ x c, h x = some c → h' x = some c) ∧ (∀ p ∈ Z, h' p.1 = some p.2 ∧ gB g ≤ p.1 ∧ h p.1 = none) ∧ (Z.map (·.1)).Nodup
theorem FR.app (F : FR g h h1 Z) (F2 : FR g h1 h2 Z2) : FR g h h2 (Z ++ Z2) := by
  refine ⟨fun x c e => F2.1 _ _ (F.1 _ _ e), fun p hp => ?_, ?_⟩
  · rcases List.mem_append.mp hp with hp | hp
    · have := F.2.1 p hp
      exact ⟨F2.1 _ _ this.1, this.2⟩
    · have := F2.2.1 p hp
      refine ⟨this.1, this.2.1, ?_⟩
      cases e : h p.1 with
      | none => rfl
      | some c => rw [F.1 _ _ e] at this; cases this.2.2
  · rw [List.map_append]
    refine List.nodup_append.mpr ⟨F.2.2, F2.2.2, fun a ha b hb e => ?_⟩
    obtain ⟨p, hp, rfl⟩ := List.mem_map.mp ha
    obtain ⟨p2, hp2, rfl⟩ := List.mem_map.mp hb
    have e1 := (F.2.1 p hp).1
    rw [e, (F2.2.1 p2 hp2).2.2] at e1
    cases e1
theorem FR.one {q : Nat} {c : AC} (hq : h q = none) (hb : gB g ≤ q) : FR g h (hup h q c) [(q, c)] :=
  ⟨fun x c e => by rw [hup_ne (fun z => by rw [z, hq] at e; cases e)]; exact e, fun p hp => by rw [List.mem_singleton.mp hp]; exact ⟨hup_eq _ _ _, hb, hq⟩, by simp⟩
theorem FR.of_KN {q : Nat} {c c0 : AC} (hq : h q = none) (K : KN g (hup h q c0) h' q c Z) : FR g h h' ((q, c) :: Z) := by
  refine ⟨fun x c e => ?_, fun p hp => ?_, ?_⟩
  · have n : x ≠ q := fun z => by rw [z, hq] at e; cases e
    exact K.2.1 x c (by rw [hup_ne n]; exact e) n
  · rcases List.mem_cons.mp hp with rfl | hp
    · exact ⟨K.1.1, K.1.2.1, hq⟩
    · have := K.2.2.1 p hp
      refine ⟨this.1, this.2.1, ?_⟩
      have := this.2.2
      rw [hup_ne (K.q_ne hp)] at this
      exact this
  · rw [List.map_cons]
    refine List.nodup_cons.mpr ⟨fun hm => ?_, K.2.2.2⟩
    obtain ⟨p, hp, e⟩ := List.mem_map.mp hm
    exact K.q_ne hp e
/-- the memory's references are of what is there -/
def CLO (ν : Nat → Nat → Bool) (X : XM) : Prop := ν 0 0 = true ∧ ν 4 16 = true ∧ (∀ s, ν 4 s = true → s < 17) ∧ (∀ i, vk ν 1 i = true → X 1 i 1 ≠ 0 → ν 2 i = true) ∧ ∀ i j, ν 2 i = true → 0 ≤ X 2 i (j + 1) → vk ν (ek i) (X 2 i (j + 1)).toNat = true
theorem ek_n2 (i : Nat) : ek i ≠ 2 := by
  unfold ek
  by_cases h0 : i = 0
  · rw [if_pos h0]; decide
  · rw [if_neg h0]
    by_cases h2 : i = 2
    · rw [if_pos h2]; decide
    · rw [if_neg h2]
      by_cases h3 : i = 3
      · rw [if_pos h3]; decide
      · rw [if_neg h3]; decide
theorem vk_ok {k i : Nat} (hv : vk ν k i = true) : kOk k = true := by
  simp only [vk, Bool.and_eq_true] at hv
  exact hv.1.1.2
theorem vk_00 {k : Nat} (h0 : ν 0 0 = true) (hk : kOk k = true) (hg : gk k 0 = (0, 0)) : vk ν k 0 = true := by simp [vk, hk, hg, h0]
theorem vk_1 {i : Nat} (hi : i < 4) (h0 : ν 0 0 = true) : vk ν 1 i = true := by simp [vk, gk, kOk, hi, h0]
theorem cellK_cg (hC : CLO ν X) (hA : ∀ k i, k ≠ 2 → vk ν k i = true → α' k i = α k i) : ∀ k i, vk ν k i = true → (k = 1 → X 1 i 1 ≠ 0 → α' 2 i = α 2 i) → cellK g α' k i (X k i) = cellK g α k i (X k i) := by
  obtain ⟨h0, h16, h17, hL1, hL2⟩ := hC
  intro k i hv h21
  have hk := vk_ok hv
  have h92 : k < 51 := by
    simp [kOk] at hk
    omega
  rcases k with _ | k
  · show ck0 g α' i (X 0 i) = ck0 g α i (X 0 i)
    simp only [ck0, hA 1 0 (by decide) (vk_1 (by decide) h0), hA 1 1 (by decide) (vk_1 (by decide) h0), hA 1 2 (by decide) (vk_1 (by decide) h0), hA 1 3 (by decide) (vk_1 (by decide) h0), hA 3 0 (by decide) (vk_00 h0 rfl rfl), hA 4 16 (by decide) (by simp [vk, gk, kOk, h16]), hA 17 0 (by decide) (vk_00 h0 rfl rfl), hA 27 0 (by decide) (vk_00 h0 rfl rfl), hA 29 0 (by decide) (vk_00 h0 rfl rfl), hA 30 0 (by decide) (vk_00 h0 rfl rfl)]
  rcases k with _ | k
  · show ck1 g α' i (X 1 i) = ck1 g α i (X 1 i)
    unfold ck1
    by_cases e : X 1 i 1 = 0
    · rw [if_pos e, if_pos e]
    · rw [if_neg e, if_neg e, h21 rfl e]
  rcases k with _ | k
  · show ck2 g α' i (X 2 i) = ck2 g α i (X 2 i)
    have h2 : ν 2 i = true := by simpa [vk, gk, kOk] using hv
    unfold ck2
    refine congrArg (fun f => (Sum.inl (3, (X 2 i 0).toNat, .inr (.inr (.inr (.inr f)))) : AC)) (funext fun j => ?_)
    unfold el
    by_cases e : X 2 i (j + 1) < 0
    · rw [if_pos e, if_pos e]
    · rw [if_neg e, if_neg e, hA _ _ (ek_n2 i) (hL2 i j h2 (by omega))]
  rcases k with _ | k
  · rfl
  rcases k with _ | k
  · show ck4 g α' i (X 4 i) = ck4 g α i (X 4 i)
    have hv2 : ν 4 i = true ∧ i < 340 := by simpa [vk, gk, kOk] using hv
    simp only [ck4, hA 5 i (by decide) (by simp [vk, gk, kOk, hv2]), hA 6 i (by decide) (by simp [vk, gk, kOk, hv2]), hA 7 i (by decide) (by simp [vk, gk, kOk, hv2]), hA 8 i (by decide) (by simp [vk, gk, kOk, hv2]), hA 9 i (by decide) (by simp [vk, gk, kOk, hv2]), hA 10 i (by decide) (by simp [vk, gk, kOk, hv2])]
  rcases k with _ | k
  · rfl
  rcases k with _ | k
  · rfl
  rcases k with _ | k
  · rfl
  rcases k with _ | k
  · rfl
  rcases k with _ | k
  · rfl
  rcases k with _ | k
  · show ck10 g α' i (X 10 i) = ck10 g α i (X 10 i)
    have hv2 : ν 4 i = true ∧ i < 340 := by simpa [vk, gk, kOk] using hv
    have hi := h17 i hv2.1
    unfold ck10
    refine congrArg (fun f => (Sum.inl (4, 20, .inr (.inr (.inr (.inr f)))) : AC)) (funext fun j => ?_)
    by_cases e : j < 20
    · have e2 : (20 * i + j) / 20 = i := by omega
      have e3 : 20 * i + j < 340 := by omega
      rw [if_pos e, if_pos e, hA 11 _ (by decide) (by simp [vk, gk, kOk, e2, hv2.1, e3])]
    · rw [if_neg e, if_neg e]
  rcases k with _ | k
  · rfl
  rcases k with _ | k
  · show ck12 g α' i (X 12 i) = ck12 g α i (X 12 i)
    have hv2 : ν 12 i = true := by simpa [vk, gk, kOk] using hv
    have e : ¬ 4 + i < 4 := by omega
    simp only [ck12, hA 13 i (by decide) (by simp [vk, gk, kOk, hv2]), hA 1 (4 + i) (by decide) (by simp [vk, gk, kOk, hv2, e])]
  rcases k with _ | k
  · rfl
  rcases k with _ | k
  · show ck14 g α' i (X 14 i) = ck14 g α i (X 14 i)
    have hv2 : ν 14 i = true := by simpa [vk, gk, kOk] using hv
    simp only [ck14, hA 15 i (by decide) (by simp [vk, gk, kOk, hv2])]
  rcases k with _ | k
  · rfl
  rcases k with _ | k
  · rfl
  rcases k with _ | k
  · show ck17 g α' i (X 17 i) = ck17 g α i (X 17 i)
    simp only [ck17, hA 18 0 (by decide) (vk_00 h0 rfl rfl), hA 19 0 (by decide) (vk_00 h0 rfl rfl), hA 20 0 (by decide) (vk_00 h0 rfl rfl), hA 21 0 (by decide) (vk_00 h0 rfl rfl), hA 22 0 (by decide) (vk_00 h0 rfl rfl), hA 23 0 (by decide) (vk_00 h0 rfl rfl), hA 24 0 (by decide) (vk_00 h0 rfl rfl), hA 25 0 (by decide) (vk_00 h0 rfl rfl), hA 26 0 (by decide) (vk_00 h0 rfl rfl)]
  rcases k with _ | k
  · rfl
  rcases k with _ | k
  · rfl
  rcases k with _ | k
  · rfl
  rcases k with _ | k
  · rfl
  rcases k with _ | k
  · rfl
  rcases k with _ | k
  · rfl
  rcases k with _ | k
  · rfl
  rcases k with _ | k
  · rfl
  rcases k with _ | k
  · rfl
  rcases k with _ | k
  · show ck27 g α' i (X 27 i) = ck27 g α i (X 27 i)
    simp only [ck27, hA 28 0 (by decide) (vk_00 h0 rfl rfl)]
  rcases k with _ | k
  · rfl
  rcases k with _ | k
  · rfl
  rcases k with _ | k
  · rfl
  rcases k with _ | k
  · exact absurd hk (by decide)
  rcases k with _ | k
  · exact absurd hk (by decide)
  rcases k with _ | k
  · exact absurd hk (by decide)
  rcases k with _ | k
  · exact absurd hk (by decide)
  rcases k with _ | k
  · exact absurd hk (by decide)
  rcases k with _ | k
  · exact absurd hk (by decide)
  rcases k with _ | k
  · exact absurd hk (by decide)
  rcases k with _ | k
  · exact absurd hk (by decide)
  rcases k with _ | k
  · exact absurd hk (by decide)
  rcases k with _ | k
  · show ck40 g α' i (X 40 i) = ck40 g α i (X 40 i)
    simp only [ck40, hA 41 0 (by decide) (vk_00 h0 rfl rfl), hA 42 0 (by decide) (vk_00 h0 rfl rfl), hA 43 0 (by decide) (vk_00 h0 rfl rfl), hA 44 0 (by decide) (vk_00 h0 rfl rfl), hA 45 0 (by decide) (vk_00 h0 rfl rfl), hA 46 0 (by decide) (vk_00 h0 rfl rfl), hA 47 0 (by decide) (vk_00 h0 rfl rfl), hA 48 0 (by decide) (vk_00 h0 rfl rfl), hA 49 0 (by decide) (vk_00 h0 rfl rfl)]
  rcases k with _ | k
  · rfl
  rcases k with _ | k
  · rfl
  rcases k with _ | k
  · rfl
  rcases k with _ | k
  · rfl
  rcases k with _ | k
  · rfl
  rcases k with _ | k
  · rfl
  rcases k with _ | k
  · rfl
  rcases k with _ | k
  · rfl
  rcases k with _ | k
  · rfl
  rcases k with _ | k
  · rfl
  omega
def alG (α : AL) (G : Nat × Nat) (Z : List (Nat × AC)) (idx : Nat → Nat → Nat) : AL := fun k i => if gk k i = G then (Z.map (·.1)).getD (idx k i) 0 else α k i
def nuG (ν : Nat → Nat → Bool) (G : Nat × Nat) : Nat → Nat → Bool := fun a b => ν a b || decide (a = G.1 ∧ b = G.2)
def xG (X : XM) (G : Nat × Nat) (x : XM) : XM := fun k i => if gk k i = G then x k i else X k i
theorem nuG_old {G : Nat × Nat} {a b : Nat} (hv : ν a b = true) : nuG ν G a b = true := by unfold nuG; rw [hv]; rfl
theorem nuG_new (ν : Nat → Nat → Bool) (G : Nat × Nat) : nuG ν G G.1 G.2 = true := by simp [nuG]
theorem nuG_ne {G : Nat × Nat} {a b : Nat} (n : (a, b) ≠ G) : nuG ν G a b = ν a b := by
  unfold nuG
  rw [decide_eq_false (fun z => n (Prod.ext z.1 z.2)), Bool.or_false]
theorem vk_nuG {G : Nat × Nat} {k i : Nat} (n : gk k i ≠ G) : vk (nuG ν G) k i = vk ν k i := by
  unfold vk
  rw [nuG_ne (a := (gk k i).1) (b := (gk k i).2) n]
theorem vk_up {ν' : Nat → Nat → Bool} {k i : Nat} (hu : ∀ a b, ν a b = true → ν' a b = true) (hv : vk ν k i = true) : vk ν' k i = true := by
  simp only [vk, Bool.and_eq_true] at hv ⊢
  exact ⟨⟨⟨hu _ _ hv.1.1.1, hv.1.1.2⟩, hv.1.2⟩, hv.2⟩
theorem vk_nu {k i : Nat} (hv : vk ν k i = true) : ν (gk k i).1 (gk k i).2 = true := by
  simp only [vk, Bool.and_eq_true] at hv
  exact hv.1.1.1
theorem vk_ne {G : Nat × Nat} {k i : Nat} (hG : ν G.1 G.2 = false) (hv : vk ν k i = true) : gk k i ≠ G := fun e => by
  have := vk_nu hv
  rw [e, hG] at this
  cases this
theorem alG_ne {G : Nat × Nat} {idx : Nat → Nat → Nat} {k i : Nat} (n : gk k i ≠ G) : alG α G Z idx k i = α k i := if_neg n
theorem xG_ne {G : Nat × Nat} {x : XM} {k i : Nat} (n : gk k i ≠ G) : xG X G x k i = X k i := if_neg n
theorem xG_eq {G : Nat × Nat} {x : XM} {k i : Nat} (n : gk k i = G) : xG X G x k i = x k i := if_pos n
theorem getD_of {j a : Nat} {c : AC} (e : Z[j]? = some (a, c)) : (Z.map (·.1)).getD j 0 = a := by
  rw [List.getD_eq_getElem?_getD, List.getElem?_map, e]
  rfl
theorem Z_inj (hn : (Z.map (·.1)).Nodup) {i j a b : Nat} {c c2 : AC} (h1 : Z[i]? = some (a, c)) (h2 : Z[j]? = some (b, c2)) (e : a = b) : i = j := by
  subst e
  have l := (List.getElem?_eq_some_iff.mp h1).1
  refine (List.getElem?_inj (by rw [List.length_map]; exact l) hn).mp ?_
  rw [List.getElem?_map, List.getElem?_map, h1, h2]
  rfl
/-- a group comes to a memory -/
theorem TR.grow {G : Nat × Nat} {idx : Nat → Nat → Nat} {x : XM} (hT : TR g α ν X h) (hC : CLO ν X) (F : FR g h h' Z) (hG : ν G.1 G.2 = false) (hi : ∀ k i, vk (nuG ν G) k i = true → gk k i = G → ∃ a, Z[idx k i]? = some (a, cellK g (alG α G Z idx) k i (x k i))) (hj : ∀ k i k' i', vk (nuG ν G) k i = true → gk k i = G → vk (nuG ν G) k' i' = true → gk k' i' = G → idx k i = idx k' i' → k = k' ∧ i = i') (hx : ∀ k i j, k ≠ 91 → R31 (x k i j)) : TR g (alG α G Z idx) (nuG ν G) (xG X G x) h' := by
  have hcg0 := cellK_cg (g := g) (α' := alG α G Z idx) hC (fun k i _ hv => alG_ne (vk_ne hG hv))
  have hcg := fun k i (hv : vk ν k i = true) => hcg0 k i hv (fun e1 e2 => by
    subst e1
    exact alG_ne (vk_ne hG (by simp [vk, gk, kOk, hC.2.2.2.1 i hv e2])))
  refine ⟨fun k i hv => ?_, fun k i k' i' hv hv' e => ?_, fun k i j h91 => ?_, nuG_old hT.2.2.2⟩
  · by_cases n : gk k i = G
    · obtain ⟨a, ha⟩ := hi k i hv n
      have e : alG α G Z idx k i = a := by
        unfold alG
        rw [if_pos n]
        exact getD_of ha
      have := F.2.1 _ (List.mem_of_getElem? ha)
      rw [e, xG_eq n]
      exact ⟨this.1, this.2.1⟩
    · rw [vk_nuG n] at hv
      have := hT.1 k i hv
      rw [alG_ne n, xG_ne n, hcg k i hv]
      exact ⟨F.1 _ _ this.1, this.2⟩
  · by_cases n : gk k i = G
    · obtain ⟨a, ha⟩ := hi k i hv n
      have ea : alG α G Z idx k i = a := by
        unfold alG
        rw [if_pos n]
        exact getD_of ha
      by_cases n' : gk k' i' = G
      · obtain ⟨a', ha'⟩ := hi k' i' hv' n'
        have ea' : alG α G Z idx k' i' = a' := by
          unfold alG
          rw [if_pos n']
          exact getD_of ha'
        exact hj k i k' i' hv n hv' n' (Z_inj F.2.2 ha ha' (ea.symm.trans (e.trans ea')))
      · rw [vk_nuG n'] at hv'
        have h1 := (F.2.1 _ (List.mem_of_getElem? ha)).2.2
        have h2 := (hT.1 k' i' hv').1
        rw [← alG_ne (α := α) (Z := Z) (idx := idx) n', ← e, ea, h1] at h2
        cases h2
    · by_cases n' : gk k' i' = G
      · obtain ⟨a', ha'⟩ := hi k' i' hv' n'
        have ea' : alG α G Z idx k' i' = a' := by
          unfold alG
          rw [if_pos n']
          exact getD_of ha'
        rw [vk_nuG n] at hv
        have h1 := (F.2.1 _ (List.mem_of_getElem? ha')).2.2
        have h2 := (hT.1 k i hv).1
        rw [← alG_ne (α := α) (Z := Z) (idx := idx) n, e, ea', h1] at h2
        cases h2
      · rw [vk_nuG n] at hv
        rw [vk_nuG n'] at hv'
        rw [alG_ne n, alG_ne n'] at e
        exact hT.2.1 k i k' i' hv hv' e
  · by_cases n : gk k i = G
    · rw [xG_eq n]; exact hx k i j h91
    · rw [xG_ne n]; exact hT.rng k i j h91
/-- the first memory -/
def alF (Z : List (Nat × AC)) (idx : Nat → Nat → Nat) : AL := fun k i => (Z.map (·.1)).getD (idx k i) 0
theorem alF_of {idx : Nat → Nat → Nat} {k i a : Nat} {c : AC} (e : Z[idx k i]? = some (a, c)) : alF Z idx k i = a := getD_of e
theorem TR.first {idx : Nat → Nat → Nat} {x : XM} (F : FR g h h' Z) (h0 : ν 0 0 = true) (hi : ∀ k i, vk ν k i = true → ∃ a, Z[idx k i]? = some (a, cellK g (alF Z idx) k i (x k i))) (hj : ∀ k i k' i', vk ν k i = true → vk ν k' i' = true → idx k i = idx k' i' → k = k' ∧ i = i') (hx : ∀ k i j, k ≠ 91 → R31 (x k i j)) : TR g (alF Z idx) ν x h' := by
  refine ⟨fun k i hv => ?_, fun k i k' i' hv hv' e => ?_, fun k i j h91 => hx k i j h91, h0⟩
  · obtain ⟨a, ha⟩ := hi k i hv
    have := F.2.1 _ (List.mem_of_getElem? ha)
    rw [alF_of ha]
    exact ⟨this.1, this.2.1⟩
  · obtain ⟨a, ha⟩ := hi k i hv
    obtain ⟨a', ha'⟩ := hi k' i' hv'
    rw [alF_of ha, alF_of ha'] at e
    exact hj k i k' i' hv hv' (Z_inj F.2.2 ha ha' e)
end AL5
