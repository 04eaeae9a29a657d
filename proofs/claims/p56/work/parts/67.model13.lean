theorem cnt_far {p : Nat → Bool} {n : Nat} (h : ∀ c, n ≤ c → c < 20 → p c = false) : ∀ k, n + k ≤ 20 → cnt p (n + k) = cnt p n
  | 0, _ => rfl
  | k + 1, hk => by
    show cnt p (n + k + 1) = _
    rw [cnt_s, cnt_far h k (by omega), h (n + k) (by omega) (by omega), if_neg (by decide)]
    omega
