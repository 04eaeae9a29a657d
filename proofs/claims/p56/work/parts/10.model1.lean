theorem hb_1 {n k : Nat} (e : ((n >>> k &&& 1 : Nat) : Int) = 1) : (1 : Int) = bi (n.testBit k) := by
  have e2 : n >>> k &&& 1 = 1 := by omega
  rw [Nat.testBit, Nat.and_comm, e2]; rfl
theorem hb_0 {n k : Nat} (e : ¬ ((n >>> k &&& 1 : Nat) : Int) = 1) : (0 : Int) = bi (n.testBit k) := by
  have e2 : n >>> k &&& 1 = 0 := by
    have := Nat.and_le_right (n := n >>> k) (m := 1)
    omega
  rw [Nat.testBit, Nat.and_comm, e2]; rfl
