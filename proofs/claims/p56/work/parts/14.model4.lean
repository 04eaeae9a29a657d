/-! THE REFERENCE: lists and seats that change -/
theorem xs_same {X : XM} {k i j : Nat} {v : Int} : xs X k i j v k i = fun j' => if j' = j then v else X k i j' := xs_fn X k i j v
theorem fk_hit {X : XM} {c k : Nat} (h1 : fk X c k = none) (h2 : canT X (X 2 (4 + c) (k + 1)).toNat c = true) : ∀ n, k < n → fk X c n = some k
  | 0, h => absurd h (Nat.not_lt_zero _)
  | n + 1, h => by
    unfold fk
    rcases Nat.lt_or_ge k n with q | q
    · rw [fk_hit h1 h2 n q]
    · have e : n = k := by omega
      subst e
      rw [h1]
      simp [h2]
theorem fk_miss {X : XM} {c k : Nat} (h1 : fk X c k = none) (h2 : canT X (X 2 (4 + c) (k + 1)).toNat c = false) : fk X c (k + 1) = none := by
  unfold fk
  rw [h1]
  simp [h2]
theorem fc_hit {X : XM} {c k : Nat} (h1 : fc X c = none) (h2 : fk X c (X 1 (4 + c) 2).toNat = some k) : ∀ n, c < n → fc X n = some (c, k)
  | 0, h => absurd h (Nat.not_lt_zero _)
  | n + 1, h => by
    unfold fc
    rcases Nat.lt_or_ge c n with q | q
    · rw [fc_hit h1 h2 n q]
    · have e : n = c := by omega
      subst e
      rw [h1, h2]
      rfl
theorem fc_miss {X : XM} {c : Nat} (h1 : fc X c = none) (h2 : fk X c (X 1 (4 + c) 2).toNat = none) : fc X (c + 1) = none := by
  unfold fc
  rw [h1, h2]
  rfl
def FM (X X' : XM) : Prop := ∀ kk, (kk < 41 ∨ 69 ≤ kk) → X' kk = X kk
theorem FM.rf (X : XM) : FM X X := fun _ _ => rfl
theorem FM.tr {X Y Z : XM} (h1 : FM X Y) (h2 : FM Y Z) : FM X Z := fun kk h => (h2 kk h).trans (h1 kk h)
theorem gvN_none {X : XM} (h : fstW X = none) : ∀ n, gvN n X = X
  | 0 => rfl
  | n + 1 => by unfold gvN; rw [h]
theorem gvN_some {X : XM} {p : Nat × Nat} (h : fstW X = some p) (n : Nat) : gvN (n + 1) X = gvN n (seat X p.1 p.2) := by
  show (match fstW X with | none => X | some p => gvN n (seat X p.1 p.2)) = _
  rw [h]
theorem seat_day (X : XM) (c k : Nat) : seat X c k 0 = X 0 := by
  unfold seat
  rw [lv_k (by decide) (by decide)]
  exact xs_nk (by decide)
theorem wo_seat {X : XM} (hO : WO X) {c k : Nat} (hc : (c : Int) < nC X) (hk : (k : Int) < X 1 (4 + c) 2) : WO (seat X c k) := by
  have m1 : xs X 5 (X 2 (4 + c) (k + 1)).toNat c 1 1 = X 1 := xs_nk (by decide)
  have q := wo_wA hO c k hc hk
  exact wo_lv (wo_t1 hO (by omega) hc (wo_wt3 hO c k hc hk)) (by unfold nC; rw [m1]; exact hc) (by rw [m1]; exact hk)
