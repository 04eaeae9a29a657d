/-- nothing is wrong in the office (as far as the two sides look at it) -/
def sndP (O : XM) : Prop := (∀ c : Nat, (c : Int) < nC O → enr O c ≤ O 12 c 2) ∧ ∀ s : Nat, (s : Int) < nS O → load O s ≤ 18 ∧ ∀ c : Nat, (c : Int) < nC O → place O c s ≠ -1 → tak O s c = false ∧ canT O s c = false
noncomputable def sndV (O : XM) : Bool := @decide (sndP O) (Classical.propDecidable _)
theorem sndV_t {O : XM} (h : sndP O) : sndV O = true := @decide_eq_true _ (Classical.propDecidable _) h
theorem sndV_f {O : XM} (h : ¬ sndP O) : sndV O = false := @decide_eq_false _ (Classical.propDecidable _) h
