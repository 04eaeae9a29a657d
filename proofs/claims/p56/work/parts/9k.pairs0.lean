section PR1
variable {g : Gt} {α : AL} {ν : Nat → Nat → Bool} {X : XM} {h : AH} {k : Int} {Tz : Int → Prop} {ML M12 : Mt} {as : List Value}
theorem mu_wk {α : AL} {ν : Nat → Nat → Bool} {M : Mt} {d : Nat} {av : List Value} {v : Option Value} {P P2 : XM → Prop} (c : Mu g α ν M d av h v P) (hP : ∀ x, P x → P2 x) : Mu g α ν M d av h v P2 := ct_weaken c (fun r h' hq => by obtain ⟨e, X', e2, e3⟩ := hq; exact ⟨e, X', e2, hP _ e3⟩)
end PR1
