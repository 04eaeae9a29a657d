/-! THE REFERENCE: attempts -/
set_option maxRecDepth 100000 in
set_option maxHeartbeats 4000000 in
theorem c_X12_tries {g : Gt} {α : AL} {ν : Nat → Nat → Bool} {X : XM} {h : AH} (hT : TR g α ν X h) {O : XM} (hM : RM O X) {s c : Nat} (hs : (s : Int) < nS O) (hs2 : s < 16) (hc : c < 20) (ht : 0 ≤ O 9 s c ∧ O 9 s c < 3) {m : Int} (hm : R31 m) : Mu g α ν M_X12_tries 1 [.ref (α 40 0), .int (J (s : Int)), .int (J (c : Int)), .int (J m)] h (none) (fun X' => (∀ kk, kk ≠ 55 → kk ≠ 56 → X' kk = X kk) ∧ (∀ j, X' 55 0 j = if j = 20 * s + c then O 9 s c + 1 else X 55 0 j) ∧ (∀ j, X' 56 0 j = if j = 3 * (20 * s + c) + (O 9 s c).toNat then m else X 56 0 j)) := by
  refine mu_of rfl rfl (ls := [some (.ref (α 40 0)), some (.int (J (s : Int))), some (.int (J (c : Int))), some (.int (J m))]) rfl (Nat.le_of_ble_eq_true rfl) ?_
  show Ev g M_X12_tries 1 0 [some (.ref (α 40 0)), some (.int (J (s : Int))), some (.int (J (c : Int))), some (.int (J m))] [] h 0 0 (UQ g α ν (none) (fun X' => (∀ kk, kk ≠ 55 → kk ≠ 56 → X' kk = X kk) ∧ (∀ j, X' 55 0 j = if j = 20 * s + c then O 9 s c + 1 else X 55 0 j) ∧ (∀ j, X' 56 0 j = if j = 3 * (20 * s + c) + (O 9 s c).toNat then m else X 56 0 j)))
  have w1 := rm_tri hM s c hs hc
  refine ev_ald0 1 dX12_tries_0 rfl ?_
  refine ev_getfield 4 14 16 fl_X12_43_14 (tr40 hT) rfl dX12_tries_1 rfl ?_
  refine tj_iconst 5 dX12_tries_4 rfl ?_
  refine ev_ild1 6 dX12_tries_5 rfl ?_
  refine ev_ild2 7 dX12_tries_6 rfl ?_
  refine tc_S2 10 dX12_tries_7 lks_X12_110 rfl (by first | decide | omega) (Nat.le_of_ble_eq_true rfl) c_X12_at ?_
  refine tj_imul 11 dX12_tries_10 rfl ?_
  refine ev_ald0 12 dX12_tries_11 rfl ?_
  refine ev_getfield 15 14 15 fl_X12_40_14 (tr40 hT) rfl dX12_tries_12 rfl ?_
  refine ev_ild1 16 dX12_tries_15 rfl ?_
  refine ev_ild2 17 dX12_tries_16 rfl ?_
  refine tc_S2 20 dX12_tries_17 lks_X12_110 rfl (by first | decide | omega) (Nat.le_of_ble_eq_true rfl) c_X12_at ?_
  refine tv_iald 21 (tr55 hT) ((20 * s + c)) (by omega) (by omega) (by omega) dX12_tries_20 rfl ?_
  refine tj_iadd 22 dX12_tries_21 rfl ?_
  refine ev_ild3 23 dX12_tries_22 rfl ?_
  refine tv_iast 24 hT (tv56 hT) (fun _ => rfl) (3 * (20 * s + c) + (O 9 s c).toNat) (by omega) (by omega) (by omega) (by first | exact TR.rng hT _ _ _ | exact R31_of _ | exact bi_R _ | (constructor <;> omega)) dX12_tries_23 rfl (fun h hT => ?_)
  obtain ⟨X3, hX3⟩ : ∃ Z, Z = xs X 56 0 (3 * (20 * s + c) + (O 9 s c).toNat) m := ⟨_, rfl⟩
  rw [← hX3] at hT
  have e3 : X3 55 0 (20 * s + c) = O 9 s c := by rw [hX3, xs_nk (by decide)]; exact w1
  refine ev_ald0 25 dX12_tries_24 rfl ?_
  refine ev_getfield 28 14 15 fl_X12_40_14 (tr40 hT) rfl dX12_tries_25 rfl ?_
  refine ev_ild1 29 dX12_tries_28 rfl ?_
  refine ev_ild2 30 dX12_tries_29 rfl ?_
  refine tc_S2 33 dX12_tries_30 lks_X12_110 rfl (by first | decide | omega) (Nat.le_of_ble_eq_true rfl) c_X12_at ?_
  refine ev_dup2 34 dX12_tries_33 rfl rfl rfl ?_
  refine tv_iald 35 (tr55 hT) ((20 * s + c)) (by omega) (by omega) (by omega) dX12_tries_34 rfl ?_
  refine tj_iconst 36 dX12_tries_35 rfl ?_
  refine tj_iadd 37 dX12_tries_36 rfl ?_
  refine tv_iast 38 hT (tv55 hT) (fun _ => rfl) ((20 * s + c)) (by omega) (by omega) (by omega) (by first | exact TR.rng hT _ _ _ | exact R31_of _ | exact bi_R _ | (constructor <;> omega)) dX12_tries_37 rfl (fun h hT => ?_)
  exact ev_vreturn (uq_v hT (by rw [e3, hX3]; exact ⟨fun kk a b => by rw [xs_nk a, xs_nk b], fun j => by rw [xs_at, xs_nk (by decide)], fun j => by rw [xs_nk (by decide), xs_at]⟩)) rfl dX12_tries_38
theorem dtC_t {X : XM} (h3 : ∀ s2 c2 : Nat, 0 ≤ X 9 s2 c2 ∧ X 9 s2 c2 ≤ 3) {s c : Nat} : ∀ s2 c2 : Nat, 0 ≤ dtC X s c 9 s2 c2 ∧ dtC X s c 9 s2 c2 ≤ 3 := by
  intro s2 c2
  unfold dtC
  rw [xs_nk (by decide)]
  split
  · by_cases e : X 9 s c < 3
    · rw [aa_9 e]
      have q := h3 s c
      split
      · omega
      · exact h3 s2 c2
    · unfold aa
      rw [if_neg e]
      exact h3 s2 c2
  · exact h3 s2 c2
/-- what the end of earlier courses leaves as it was -/
theorem dtC_o {X : XM} {s c c2 : Nat} (h : c2 ≠ c) : dtC X s c 9 s c2 = X 9 s c2 ∧ dtC X s c 7 s c2 = X 7 s c2 := by
  unfold dtC
  constructor
  · rw [xs_nk (by decide)]
    split
    · by_cases e : X 9 s c < 3
      · rw [aa_9 e, if_neg (fun z => h z.2)]
      · unfold aa; rw [if_neg e]
    · rfl
  · rw [xs_at, if_neg h]
    split
    · rw [aa_k (by decide) (by decide) (by decide)]
    · rfl
theorem dtS_o (X : XM) (s : Nat) {c2 : Nat} : ∀ n, n ≤ c2 → dtS X s n 9 s c2 = X 9 s c2 ∧ dtS X s n 7 s c2 = X 7 s c2
  | 0, _ => ⟨rfl, rfl⟩
  | n + 1, h => by
    have a := dtC_o (X := dtS X s n) (s := s) (c := n) (c2 := c2) (by omega)
    have b := dtS_o X s n (show n ≤ c2 by omega)
    exact ⟨a.1.trans b.1, a.2.trans b.2⟩
theorem dtC_k {X : XM} {s c k : Nat} (h7 : k ≠ 7) (h8 : k ≠ 8) (h9 : k ≠ 9) (h11 : k ≠ 11) : dtC X s c k = X k := by
  unfold dtC
  rw [xs_nk h7]
  split
  · exact aa_k h8 h9 h11
  · rfl
theorem dtS_k {X : XM} {s k : Nat} (h7 : k ≠ 7) (h8 : k ≠ 8) (h9 : k ≠ 9) (h11 : k ≠ 11) : ∀ n, dtS X s n k = X k
  | 0 => rfl
  | n + 1 => by rw [dtS, dtC_k h7 h8 h9 h11]; exact dtS_k h7 h8 h9 h11 n
/-- behind all courses that are there nothing more happens -/
theorem dtS_20 {X : XM} (hO : WO X) {s : Nat} (hs : (s : Int) < nS X) : ∀ k : Nat, (nC X).toNat + k ≤ 20 → dtS X s ((nC X).toNat + k) = dtS X s (nC X).toNat
  | 0, _ => rfl
  | k + 1, hk => by
    have q := wo_nC hO
    have ih := dtS_20 hO hs k (by omega)
    have f := wo_far hO s ((nC X).toNat + k) hs (by omega) (by omega)
    have f7 := wo_f7 hO s ((nC X).toNat + k) hs (by omega) (by omega)
    have e7 := (dtS_o X s (c2 := (nC X).toNat + k) ((nC X).toNat + k) (Nat.le_refl _)).2
    have et : ¬ tak (dtS X s ((nC X).toNat + k)) s ((nC X).toNat + k) = true := by
      unfold tak
      rw [dtS_5]
      exact fun z => absurd f.1 (of_decide_eq_true z)
    show dtC (dtS X s ((nC X).toNat + k)) s ((nC X).toNat + k) = _
    unfold dtC
    rw [if_neg et, xs_id (by rw [e7]; exact f7)]
    exact ih
theorem ctS_20 {X : XM} (hO : WO X) {s : Nat} (hs : (s : Int) < nS X) : ctS X s 20 = z5 (dtS X s (nC X).toNat) s 20 := by
  have q := wo_nC hO
  have k := dtS_20 hO hs (20 - (nC X).toNat) (by omega)
  rw [show (nC X).toNat + (20 - (nC X).toNat) = 20 by omega] at k
  rw [ctS_z5, k]
theorem cnt_far {p : Nat → Bool} {n : Nat} (h : ∀ c, n ≤ c → c < 20 → p c = false) : ∀ k, n + k ≤ 20 → cnt p (n + k) = cnt p n
  | 0, _ => rfl
  | k + 1, hk => by
    show cnt p (n + k + 1) = _
    rw [cnt_s, cnt_far h k (by omega), h (n + k) (by omega) (by omega), if_neg (by decide)]
    omega
