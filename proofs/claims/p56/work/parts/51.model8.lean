/-! THE REFERENCE: transcripts -/
/-- the kinds that are not the reference's stand -/
def CM (X X' : XM) : Prop := ∀ kk, (kk < 40 ∨ 80 ≤ kk) → X' kk = X kk
theorem CM.tr {X Y Z : XM} (h1 : CM X Y) (h2 : CM Y Z) : CM X Z := fun kk h => (h2 kk h).trans (h1 kk h)
theorem CM.xs (X : XM) {k i j : Nat} {v : Int} (hk : 40 ≤ k ∧ k < 80) : CM X (xs X k i j v) := fun kk h => xs_nk (by omega)
/-- and 'thrown' is v -/
def CZ (X X' : XM) (v : Int) : Prop := CM X X' ∧ X' 40 0 0 = v
theorem CZ.at {X Y : XM} (h : CM X Y) (v : Int) : CZ X (xs Y 40 0 0 v) v := ⟨h.tr (CM.xs _ (by decide)), by rw [xs_at, if_pos rfl]⟩
