/-! THE LAW'S OWN CALLS: a call of the class in a try, its answer or its exception's number -/
section RU7
variable {g : Gt} {α : AL} {ν : Nat → Nat → Bool} {X : XM} {M M2 : Mt} {d d1 pc : Nat} {ls : List (Option Value)} {st : List Value} {h : AH} {mc ms mc1 ms1 : Nat} {Q : RT → AH → Prop}
theorem xv_catch {E name : String} {s0 e0 hp ct : Nat} (pre suf : List (Nat × Nat × Nat × Nat)) (hs : mH M = pre ++ (s0, e0, hp, ct) :: suf) (hpass : ∀ z ∈ pre, z.2.2.2 ≠ 0 ∧ ∃ nm : String, Cond.classLink (mY M).cls z.2.2.2 nm ∈ lw_tbl ∧ (E, nm) ∈ lw_ncs) (hcov : s0 ≤ pc ∧ pc < e0) (h0 : ct ≠ 0)
    (hl : Cond.classLink (mY M).cls ct name ∈ lw_tbl) (hc : Cond.castable E name ∈ lw_tbl) (kk : ∀ q, Ev g M d hp ls [.ref q] h mc ms Q) : Xv g M d pc ls E h mc ms Q := by
  intro p e s m args below meth c H locs cells slots lsA tc ts rest q ce hM hS hL h1 h2 hce hv hf
  have hC := hM.2.2.2.2.2.2.2.2
  have htab : c.exceptionTable.toList = tableOf (mH M) := hM.2.2.2.2.2.2.2.1
  refine vx_catch (own := (mY M).cls) (name := name) (E := E) (ce := ce) hM.2.2.2.1 (tableOf pre) ⟨s0, e0, hp, ct⟩ (tableOf suf) (by rw [htab, hs]; unfold tableOf; rw [List.map_append]; rfl) (fun z hz => ?_) (by show (decide (s0 ≤ pc) && decide (pc < e0)) = true; simp [hcov.1, hcov.2]) h0 (AW.at hC hl rfl) (AW.at hC hc rfl) hce hv hf ?_
  · obtain ⟨y, hy, rfl⟩ := List.mem_map.mp hz
    obtain ⟨a1, nm, a2, a3⟩ := hpass y hy
    exact Or.inr ⟨a1, nm, AW.at hC a2 rfl, hC.1.2.2.2.2.2.2.2.2.2.1 _ a3⟩
  · exact kk q p e s m args below meth c H locs cells slots lsA tc ts hM hS hL h1 h2
/-- a contract that may make cells -/
def Al (g : Gt) (M : Mt) (d : Nat) (av : List Value) (h : AH) (mc ms : Nat) (v : Option Value) (P : AL → (Nat → Nat → Bool) → XM → Prop) : Prop := Ct g M d av h mc ms (fun r h' => r = .inl v ∧ ∃ α' ν' X', TR g α' ν' X' h' ∧ P α' ν' X')
theorem al_of_mu {v : Option Value} {av : List Value} {P : XM → Prop} (c : Mu g α ν M d av h v P) : Al g M d av h 0 0 v (fun α' ν' X' => α' = α ∧ ν' = ν ∧ P X') :=
  ct_weaken c (fun r h' hq => by obtain ⟨e1, X', e2, e3⟩ := hq; exact ⟨e1, α, ν, X', e2, rfl, rfl, e3⟩)
theorem al_of_pr {v : Option Value} {av : List Value} (hT : TR g α ν X h) (c : Pr g M d av h v) : Al g M d av h 0 0 v (fun α' ν' X' => α' = α ∧ ν' = ν ∧ X' = X) :=
  ct_weaken c (fun r h' hq => by obtain ⟨e1, rfl⟩ := hq; exact ⟨e1, α, ν, X, hT, rfl, rfl, rfl⟩)
theorem al_mono {v : Option Value} {av : List Value} {P P' : AL → (Nat → Nat → Bool) → XM → Prop} (c : Al g M d av h mc ms v P) (hP : ∀ a n x, P a n x → P' a n x) : Al g M d av h mc ms v P' :=
  ct_weaken c (fun r h' hq => by obtain ⟨e1, α', ν', X', e2, e3⟩ := hq; exact ⟨e1, α', ν', X', e2, hP _ _ _ e3⟩)
theorem ta_V1 {x0 : Value} {v : Value} {P : AL → (Nat → Nat → Bool) → XM → Prop} {b : Nat} {fs : List Value} {index : Nat} (n ci : Nat) (hd : decode (mC M) pc = .ok (.invokevirtual index, 3)) (L : LKv (mY M).cls index M2 1) (hb : h b = some (.inr (ci, fs))) (hci : vwCl[ci]?.map (·.1) = some (mY M2).cls) (hn : pc + 3 = n) (hd1 : d1 < d) (hcat : (st.map fun v => v.category).sum ≤ 8) (hc : Al g M2 d1 [.ref b, x0] h mc1 ms1 (some v) P) (kk : ∀ h' α' ν' X', TR g α' ν' X' h' → P α' ν' X' → Ev g M d n ls (v :: st) h' mc ms Q) : Ev g M d pc ls (x0 :: .ref b :: st) h (mc1 + mc) (ms1 + ms) Q :=
  ev_callV n ci L hc hd1 hb hci rfl rfl hcat hd hn (fun v h' hq => by obtain ⟨e1, α', ν', X', e2, e3⟩ := hq; cases e1; exact kk h' α' ν' X' e2 e3) (fun E h' hq => by cases hq.1)
end RU7
