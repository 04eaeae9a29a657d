/-! THE CLASS: transcripts -/
theorem tj_i2c {g : Gt} {M : Mt} {d pc : Nat} {ls : List (Option Value)} {st : List Value} {h : AH} {mc ms : Nat} {Q : RT → AH → Prop} {z : Int} (n : Nat) (hd : decode (mC M) pc = .ok (.i2c, 1)) (hz : 0 ≤ z ∧ z < 128) (hn : pc + 1 = n) (k : Ev g M d n ls (.int (J z) :: st) h mc ms Q) : Ev g M d pc ls (.int (J z) :: st) h mc ms Q := by
  refine ev_i2c n hd hn ?_
  have key : ∀ q : Fin 128, ((J (q.val : Int)).toUInt32 % 65536).toInt32 = J (q.val : Int) := by decide +kernel
  have e := key ⟨z.toNat, by omega⟩
  have e2 : ((z.toNat : Nat) : Int) = z := by omega
  rw [show ((⟨z.toNat, by omega⟩ : Fin 128).val : Int) = z from e2] at e
  rw [e]
  exact k
