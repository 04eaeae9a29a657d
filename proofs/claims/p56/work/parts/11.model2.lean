theorem kept_s (O : XM) (c : Nat) (m : Int) (k : Nat) : kept O c m (k + 1) = kept O c m k + (if (k : Int) ≠ m ∧ enrM O c k < O 13 c k then O 13 c k - enrM O c k else 0) := rfl
theorem kept_0 {O : XM} (hO : WO O) {c : Nat} (hc : (c : Int) < nC O) (m : Int) : ∀ k : Nat, k ≤ 4 → 0 ≤ kept O c m k ∧ kept O c m k ≤ 12 * k
  | 0, _ => ⟨Int.le_refl 0, Int.le_refl 0⟩
  | k + 1, hk => by
    have h1 := kept_0 hO hc m k (by omega)
    have h2 := wo_res hO c k hc (by omega)
    have h3 : 0 ≤ enrM O c k := (cnt_0 _ _).1
    rw [kept_s]
    split <;> omega
theorem enr_0 {O : XM} (hO : WO O) (c : Nat) : 0 ≤ enr O c ∧ enr O c ≤ 16 := by
  have h1 := cnt_0 (fun s => tak O s c) (nS O).toNat
  have h2 := wo_nS hO
  show 0 ≤ cnt (fun s => tak O s c) (nS O).toNat ∧ cnt (fun s => tak O s c) (nS O).toNat ≤ 16
  omega
theorem enrM_0 {O : XM} (hO : WO O) (c : Nat) (m : Int) : 0 ≤ enrM O c m ∧ enrM O c m ≤ 16 := by
  have h1 := cnt_0 (fun s => tak O s c && decide (O 4 s 0 = m)) (nS O).toNat
  have h2 := wo_nS hO
  show 0 ≤ cnt (fun s => tak O s c && decide (O 4 s 0 = m)) (nS O).toNat ∧ cnt (fun s => tak O s c && decide (O 4 s 0 = m)) (nS O).toNat ≤ 16
  omega
theorem plc_hit {O : XM} {c s k : Nat} (h1 : plc O c s k = -1) (h2 : O 2 (4 + c) (k + 1) = s) : ∀ n : Nat, k < n → plc O c s n = k
  | 0, h => absurd h (Nat.not_lt_zero _)
  | n + 1, h => by
    rcases Nat.lt_or_ge k n with q | q
    · have e := plc_hit h1 h2 n q
      show (if plc O c s n = -1 then _ else plc O c s n) = _
      rw [e, if_neg (by omega)]
    · have e : k = n := by omega
      subst e
      show (if plc O c s k = -1 then (if O 2 (4 + c) (k + 1) = s then (k : Int) else -1) else _) = _
      rw [if_pos h1, if_pos h2]
theorem plc_miss {O : XM} {c s k : Nat} (h1 : plc O c s k = -1) (h2 : ¬ O 2 (4 + c) (k + 1) = s) : plc O c s (k + 1) = -1 := by
  show (if plc O c s k = -1 then (if O 2 (4 + c) (k + 1) = s then (k : Int) else -1) else _) = _
  rw [if_pos h1, if_neg h2]
/-- what enroll would do -/
def ltr (X : XM) (s c : Nat) : Int := if 5 < X 0 0 5 then 100 else if tak X s c = true ∨ place X c s ≠ -1 then 105 else if mayT X s c = false then 114 else if 3 ≤ X 9 s c then 97 else if fitsL X s c = false then 99 else if 0 < free X c (X 4 s 0) then 101 else if 6 ≤ X 1 (4 + c) 2 then 102 else 119
theorem free_0 {X : XM} (hO : WO X) {c : Nat} (hc : (c : Int) < nC X) (m : Int) : 0 ≤ free X c m ∧ free X c m ≤ 12 := by
  have h1 := enr_0 hO c
  have h2 := kept_0 hO hc m 4 (by omega)
  have h3 := wo_sea hO c hc
  unfold free free0
  split <;> split <;> omega
theorem plc_R (O : XM) (c s : Nat) : ∀ n : Nat, -1 ≤ plc O c s n ∧ plc O c s n < n
  | 0 => ⟨Int.le_refl _, by show (-1 : Int) < ((0 : Nat) : Int); omega⟩
  | n + 1 => by
    have := plc_R O c s n
    show -1 ≤ (if plc O c s n = -1 then (if O 2 (4 + c) (n + 1) = s then (n : Int) else -1) else plc O c s n) ∧ (if plc O c s n = -1 then (if O 2 (4 + c) (n + 1) = s then (n : Int) else -1) else plc O c s n) < ((n + 1 : Nat) : Int)
    split
    · split <;> omega
    · omega
theorem place_R {O : XM} (hO : WO O) {c : Nat} (hc : (c : Int) < nC O) (s : Nat) : -1 ≤ place O c s ∧ place O c s < 6 := by
  have h1 := plc_R O c s (O 1 (4 + c) 2).toNat
  have h2 := wo_wN hO c hc
  unfold place
  omega
theorem ltr_c (X : XM) (s c : Nat) : 0 ≤ ltr X s c ∧ ltr X s c < 128 := by
  unfold ltr
  repeat' split
  all_goals omega
