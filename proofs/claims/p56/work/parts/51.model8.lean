/-! THE REFERENCE: transcripts -/
/-- the kinds that are not the reference's stand -/
def CM (X X' : XM) : Prop := ∀ kk, (kk < 40 ∨ 80 ≤ kk) → X' kk = X kk
theorem CM.tr {X Y Z : XM} (h1 : CM X Y) (h2 : CM Y Z) : CM X Z := fun kk h => (h2 kk h).trans (h1 kk h)
