/-- what is kept for others; for all -/
def rsO (O : XM) (c : Nat) (m : Nat) : Nat → Int
  | 0 => 0
  | k + 1 => if k = m then rsO O c m k else rsO O c m k + O 13 c k
def rsA (O : XM) (c : Nat) : Nat → Int
  | 0 => 0
  | k + 1 => rsA O c k + O 13 c k
theorem rsO_R {O : XM} (hO : WO O) {c : Nat} (hc : (c : Int) < nC O) (m : Nat) : ∀ k : Nat, k ≤ 4 → 0 ≤ rsO O c m k ∧ rsO O c m k ≤ 12 * k
  | 0, _ => ⟨Int.le_refl 0, Int.le_refl 0⟩
  | k + 1, hk => by
    have h1 := rsO_R hO hc m k (by omega)
    have h2 := wo_res hO c k hc (by omega)
    rw [rsO]
    split <;> omega
theorem rsA_O {O : XM} {c m : Nat} : ∀ k : Nat, rsA O c k = rsO O c m k + (if m < k then O 13 c m else 0)
  | 0 => by rw [rsA, rsO, if_neg (Nat.not_lt_zero m)]; rfl
  | k + 1 => by
    rw [rsA, rsO, rsA_O (m := m) k]
    by_cases e : k = m
    · subst e; rw [if_pos rfl, if_neg (Nat.lt_irrefl k), if_pos (Nat.lt_succ_self k)]; omega
    · rw [if_neg e]
      by_cases q : m < k
      · rw [if_pos q, if_pos (by omega)]; omega
      · rw [if_neg q, if_neg (by omega)]; omega
