theorem holF_3 {O : XM} {b : Nat → Int} {t : Nat → Bool} {e : Int} {f : Nat} (h : O 16 f 9 = 3) (h1 : 0 ≤ O 16 f 2 ∧ O 16 f 2 < f) (h2 : 0 ≤ O 16 f 3 ∧ O 16 f 3 < f) (h3 : -1 ≤ O 16 f 4 ∧ O 16 f 4 < f) : holF O b t e f = decide (O 16 f 1 ≤ bi (holF O b t e (O 16 f 2).toNat) + bi (holF O b t e (O 16 f 3).toNat) + bi (decide (O 16 f 4 ≠ -1) && holF O b t e (O 16 f 4).toNat)) := by
  show (if f = f then evF O b t e f (ttF O b t e f) else _) = _
  rw [if_pos rfl, evF, if_neg (by omega), if_neg (by omega), if_neg (by omega), if_pos h, ttF_lt O b t e (f := (O 16 f 2).toNat) (by omega), ttF_lt O b t e (f := (O 16 f 3).toNat) (by omega)]
  by_cases c : O 16 f 4 = -1
  · simp [c]
  · rw [ttF_lt O b t e (f := (O 16 f 4).toNat) (by omega)]
/-- somebody new: who has passed the courses with nf -/
def nbF (nf : Nat → Int) : Nat → Int := fun c => if nf c ≠ 0 then 100 else -1
def ntF : Nat → Bool := fun _ => false
def neF (O : XM) (nf : Nat → Int) : Int := crS O (fun c => decide (nf c ≠ 0)) (nC O).toNat
