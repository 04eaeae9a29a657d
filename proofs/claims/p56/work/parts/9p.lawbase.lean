/-- a link of a static method with handlers -/
def LKh (own : String) (index : Nat) (M2 : Mt) (n : Nat) : Prop := (mW M2 = Cond.codeWith (mY M2) (mC M2) (mL M2) (mR M2) (mH M2) ∧ Cond.methodLink own index (mY M2) ∈ lw_tbl ∧ Cond.codeWith (mY M2) (mC M2) (mL M2) (mR M2) (mH M2) ∈ lw_tbl ∧ Cond.initialized (mY M2).cls ∈ lw_tbl ∧ mL M2 ≤ 27) ∧
  ((mY M2).cls ≠ "java/lang/invoke/MethodHandle" ∧ (mY M2).cls ≠ "java/lang/invoke/VarHandle" ∧ (parseMethodDescriptor (mY M2).desc).map (fun d => d.parameters.length) = some n) ∧ Cond.static (mY M2) ∈ lw_tbl
section LWB
variable {g : Gt} {α : AL} {ν : Nat → Nat → Bool} {X : XM} {M M2 : Mt} {d d1 pc : Nat} {ls : List (Option Value)} {st st0 : List Value} {h : AH} {mc ms mc1 ms1 : Nat} {Q Q1 : RT → AH → Prop}
theorem ev_callSH {index k : Nat} {As : List Value} (n : Nat) (L : LKh (mY M).cls index M2 k) (hc : Ct g M2 d1 As h mc1 ms1 Q1) (hd1 : d1 < d) (hk : As.length = k) (hst : st0 = As.reverse ++ st) (hcat : (st.map fun v => v.category).sum ≤ 8) (hd : decode (mC M) pc = .ok (.invokestatic index, 3)) (hn : pc + 3 = n)
    (kr : ∀ v h', Q1 (.inl v) h' → Ev g M d n ls (v.toList ++ st) h' mc ms Q) (kx : ∀ E h', Q1 (.inr E) h' → Xv g M d pc ls E h' mc ms Q) : Ev g M d pc ls st0 h (mc1 + mc) (ms1 + ms) Q := by
  subst hst
  refine ev_of_vrun (As := As.toArray) n (fun p e s m args below meth c H locs cells slots lsA tc ts hM hS hL h1 h2 => ?_) hn kr kx
  have hC := hM.2.2.2.2.2.2.2.2
  obtain ⟨⟨l1, l2, l3, l4, l5⟩, l6, l7⟩ := L
  have ew : mWs M2 = Cond.codeWith (mY M2) (mC M2) (mL M2) (mR M2) (mH M2) :: [] := by show [mW M2] = _; rw [l1]
  have hR := rm_le (M2 := M2) hd1 l5 tc ts
  have hcw : ∀ A : Array Value, (Cond.codeWith (mY M2) (mC M2) (mL M2) (mR M2) (mH M2)).before A s = true := fun A => AW.at hC l3 rfl
  refine vx_runSX (Ts := [Cond.codeWith (mY M2) (mC M2) (mL M2) (mR M2) (mH M2)]) (n := k) (hh := mH M2) (bytes := mC M2) (maxL := mL M2) (ret := mR M2) ⟨hM.1, hM.2.1, hM.2.2.2.2.1, hM.2.2.2.1, fun w hw => by rw [List.mem_singleton.mp hw]; exact hcw _⟩ hc ⟨⟨rfl, rfl, hR.1, hR.2, fun w hw a' U hW => ?_, by rw [ew]; exact List.mem_cons_self⟩, hcw _, AW.at hC l4 rfl, ⟨l6.1, l6.2.1⟩, fun sig hs => ?_, AW.at hC l2 rfl, AW.at hC l7 rfl⟩ ⟨ct_blind, fun U hU hW => ct_at hC hS hU hW⟩ rfl hk hL.1 rfl (lv_room hcat) hd ⟨by show cells + mc1 ≤ tc; omega, by show slots + ms1 ≤ ts; omega⟩
  · rw [ew] at hw
    rw [List.mem_singleton.mp hw]
    exact word_at hW (good_of_word rfl) (hcw args)
  · have h2 := l6.2.2
    rw [hs] at h2
    exact (Option.some.inj h2).symm
/-- a call of the law's own -/
theorem lh_S {As : List Value} {v : Value} {P : AL → (Nat → Nat → Bool) → XM → Prop} {index k : Nat} (n : Nat) (hd : decode (mC M) pc = .ok (.invokestatic index, 3)) (L : LKh (mY M).cls index M2 k) (hc : Al g M2 d1 As h mc1 ms1 (some v) P) (hd1 : d1 < d) (hk : As.length = k) (hst : st0 = As.reverse ++ st) (hcat : (st.map fun v => v.category).sum ≤ 8) (hn : pc + 3 = n) (kk : ∀ h' α' ν' X', TR g α' ν' X' h' → P α' ν' X' → Ev g M d n ls (v :: st) h' mc ms Q) : Ev g M d pc ls st0 h (mc1 + mc) (ms1 + ms) Q :=
  ev_callSH n L hc hd1 hk hst hcat hd hn (fun v2 h' hq => by obtain ⟨e1, α', ν', X', e2, e3⟩ := hq; cases e1; exact kk h' α' ν' X' e2 e3) (fun E h' hq => by cases hq.1)
/-- every int is one -/
theorem scr_J (x : Int32) : ∃ a : Int, R31 a ∧ x = J a := ⟨x.toInt, ⟨Int32.le_toInt x, Int32.toInt_lt x⟩, (Int32.ofInt_toInt x).symm⟩
end LWB
