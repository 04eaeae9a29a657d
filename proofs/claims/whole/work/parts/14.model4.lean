/-! THE REFERENCE: lists and seats that change -/
theorem xs_same {X : XM} {k i j : Nat} {v : Int} : xs X k i j v k i = fun j' => if j' = j then v else X k i j' := xs_fn X k i j v
set_option maxRecDepth 100000 in
set_option maxHeartbeats 4000000 in
theorem c_X12_leaves {g : Gt} {α : AL} {ν : Nat → Nat → Bool} {X : XM} {h : AH} (hT : TR g α ν X h) {c k : Nat} (hc : c < 20) (hk : (k : Int) < X 48 0 c) (h6 : X 48 0 c ≤ 6) : Mu g α ν M_X12_leaves 0 [.ref (α 40 0), .int (J (c : Int)), .int (J (k : Int))] h (none) (fun X' => (∀ kk, kk ≠ 48 → kk ≠ 49 → X' kk = X kk) ∧ (∀ j, X' 48 0 j = if j = c then X 48 0 c - 1 else X 48 0 j) ∧ (∀ q : Nat, X' 49 0 q = if 6 * c + k ≤ q ∧ (q : Int) < 6 * c + (X 48 0 c - 1) then X 49 0 (q + 1) else X 49 0 q)) := by
  refine mu_of rfl rfl (ls := [some (.ref (α 40 0)), some (.int (J (c : Int))), some (.int (J (k : Int))), none]) rfl (Nat.le_of_ble_eq_true rfl) ?_
  show Ev g M_X12_leaves 0 0 [some (.ref (α 40 0)), some (.int (J (c : Int))), some (.int (J (k : Int))), none] [] h 0 0 (UQ g α ν (none) (fun X' => (∀ kk, kk ≠ 48 → kk ≠ 49 → X' kk = X kk) ∧ (∀ j, X' 48 0 j = if j = c then X 48 0 c - 1 else X 48 0 j) ∧ (∀ q : Nat, X' 49 0 q = if 6 * c + k ≤ q ∧ (q : Int) < 6 * c + (X 48 0 c - 1) then X 49 0 (q + 1) else X 49 0 q)))
  refine ev_ild2 1 dX12_leaves_0 rfl ?_
  refine ev_ist3 2 dX12_leaves_1 rfl (by decide) rfl ?_
  have lp2 : ∀ (n2 : Nat) (j : Nat) (z3 : Int)  (h2 : AH) (X2 : XM), 7 - j < n2 → (k ≤ j) → ((j : Int) < X 48 0 c) → z3 = (j : Int) → TR g α ν X2 h2 → (∀ kk, kk ≠ 49 → X2 kk = X kk) ∧ (∀ q : Nat, X2 49 0 q = if 6 * c + k ≤ q ∧ q < 6 * c + j then X 49 0 (q + 1) else X 49 0 q) → Ev g M_X12_leaves 0 2 [some (.ref (α 40 0)), some (.int (J (c : Int))), some (.int (J (k : Int))), some (.int (J z3))] [] h2 0 0 (UQ g α ν (none) (fun X' => (∀ kk, kk ≠ 48 → kk ≠ 49 → X' kk = X kk) ∧ (∀ j, X' 48 0 j = if j = c then X 48 0 c - 1 else X 48 0 j) ∧ (∀ q : Nat, X' 49 0 q = if 6 * c + k ≤ q ∧ (q : Int) < 6 * c + (X 48 0 c - 1) then X 49 0 (q + 1) else X 49 0 q))) := by
    intro n2
    induction n2 with
    | zero => intro j z3 h2 X2 hm; exact absurd hm (Nat.not_lt_zero _)
    | succ n2 ih2 =>
      intro j z3 h2 X2 hm2 hj hj2 e3 hT hI
      subst e3
      have e48 := hI.1 48 (by decide)
      have e48c : X2 48 0 c = X 48 0 c := by rw [e48]
      have e49 := hI.2
      refine ev_ild3 3 dX12_leaves_2 rfl ?_
      refine tj_iconst 4 dX12_leaves_3 rfl ?_
      refine tj_iadd 5 dX12_leaves_4 rfl ?_
      refine ev_ald0 6 dX12_leaves_5 rfl ?_
      refine ev_getfield 9 14 8 fl_X12_22_14 (tr40 hT) rfl dX12_leaves_6 rfl ?_
      refine ev_ild1 10 dX12_leaves_9 rfl ?_
      refine tv_iald 11 (tr48 hT) (c) (by omega) (by omega) (by omega) dX12_leaves_10 rfl ?_
      rw [e48]
      refine tj_icmp_ge 44 14 dX12_leaves_11 (by decide) rfl (by first | exact TR.rng hT _ _ _ | exact R31_of _ | exact bi_R _ | (constructor <;> omega)) (by first | exact TR.rng hT _ _ _ | exact R31_of _ | exact bi_R _ | (constructor <;> omega)) (fun c11 => ?_) (fun c11 => ?_)
      · skip
        refine ev_ald0 45 dX12_leaves_44 rfl ?_
        refine ev_getfield 48 14 8 fl_X12_22_14 (tr40 hT) rfl dX12_leaves_45 rfl ?_
        refine ev_ild1 49 dX12_leaves_48 rfl ?_
        refine ev_dup2 50 dX12_leaves_49 rfl rfl rfl ?_
        refine tv_iald 51 (tr48 hT) (c) (by omega) (by omega) (by omega) dX12_leaves_50 rfl ?_
        refine tj_iconst 52 dX12_leaves_51 rfl ?_
        refine tj_isub 53 dX12_leaves_52 rfl ?_
        refine tv_iast 54 hT (tv48 hT) (fun _ => rfl) (c) (by omega) (by omega) (by omega) (by first | exact TR.rng hT _ _ _ | exact R31_of _ | exact bi_R _ | (constructor <;> omega)) dX12_leaves_53 rfl (fun h hT => ?_)
        exact ev_vreturn (uq_v hT (by refine ⟨fun kk h1 h2 => by rw [xs_nk h1]; exact hI.1 kk h2, fun q => by rw [xs_at, e48], fun q => ?_⟩; rw [xs_nk (by decide), e49]; by_cases e : 6 * c + k ≤ q ∧ q < 6 * c + j; (rw [if_pos e, if_pos (by omega)]); (rw [if_neg e, if_neg (by omega)]))) rfl dX12_leaves_54
      · skip
        refine ev_ald0 15 dX12_leaves_14 rfl ?_
        refine ev_getfield 18 14 9 fl_X12_25_14 (tr40 hT) rfl dX12_leaves_15 rfl ?_
        refine tj_bipush 20 dX12_leaves_18 (by decide) rfl ?_
        refine ev_ild1 21 dX12_leaves_20 rfl ?_
        refine tj_imul 22 dX12_leaves_21 rfl ?_
        refine ev_ild3 23 dX12_leaves_22 rfl ?_
        refine tj_iadd 24 dX12_leaves_23 rfl ?_
        refine ev_ald0 25 dX12_leaves_24 rfl ?_
        refine ev_getfield 28 14 9 fl_X12_25_14 (tr40 hT) rfl dX12_leaves_25 rfl ?_
        refine tj_bipush 30 dX12_leaves_28 (by decide) rfl ?_
        refine ev_ild1 31 dX12_leaves_30 rfl ?_
        refine tj_imul 32 dX12_leaves_31 rfl ?_
        refine ev_ild3 33 dX12_leaves_32 rfl ?_
        refine tj_iadd 34 dX12_leaves_33 rfl ?_
        refine tj_iconst 35 dX12_leaves_34 rfl ?_
        refine tj_iadd 36 dX12_leaves_35 rfl ?_
        refine tv_iald 37 (tr49 hT) (6 * c + j + 1) (by omega) (by omega) (by omega) dX12_leaves_36 rfl ?_
        refine tv_iast 38 hT (tv49 hT) (fun _ => rfl) (((6 * c) + j)) (by omega) (by omega) (by omega) (by first | exact TR.rng hT _ _ _ | exact R31_of _ | exact bi_R _ | (constructor <;> omega)) dX12_leaves_37 rfl (fun h hT => ?_)
        refine tj_inc3 41 dX12_leaves_38 rfl (by decide) rfl ?_
        refine ev_goto 2 dX12_leaves_41 (by decide) ?_
        exact ih2 (j + 1) _ _ _ (by omega) (by first | omega | assumption | omega) (by first | omega | assumption | omega) (by first | rfl | omega | (omega)) hT (by first | assumption | (first | exact ⟨fun _ _ => rfl, fun q => by rw [if_neg (by omega)]⟩ | (refine ⟨fun kk hkk => by rw [xs_nk hkk]; exact hI.1 kk hkk, fun q => ?_⟩; rw [xs_at]; by_cases e : q = 6 * c + j; (subst e; rw [if_pos rfl, if_pos (by omega), e49, if_neg (by omega)]); (rw [if_neg e, e49]; by_cases e2 : 6 * c + k ≤ q ∧ q < 6 * c + j; (rw [if_pos e2, if_pos (by omega)]); (rw [if_neg e2, if_neg (by omega)])))))
  exact lp2 _ (k) _ _ _ (Nat.lt_succ_self _) (by first | omega | assumption | omega) (by first | omega | assumption | omega) (by first | rfl | omega | (omega)) hT (by first | assumption | (first | exact ⟨fun _ _ => rfl, fun q => by rw [if_neg (by omega)]⟩ | (refine ⟨fun kk hkk => by rw [xs_nk hkk]; exact hI.1 kk hkk, fun q => ?_⟩; rw [xs_at]; by_cases e : q = 6 * c + j; (subst e; rw [if_pos rfl, if_pos (by omega), e49, if_neg (by omega)]); (rw [if_neg e, e49]; by_cases e2 : 6 * c + k ≤ q ∧ q < 6 * c + j; (rw [if_pos e2, if_pos (by omega)]); (rw [if_neg e2, if_neg (by omega)])))))
theorem fk_hit {X : XM} {c k : Nat} (h1 : fk X c k = none) (h2 : canT X (X 2 (4 + c) (k + 1)).toNat c = true) : ∀ n, k < n → fk X c n = some k
  | 0, h => absurd h (Nat.not_lt_zero _)
  | n + 1, h => by
    unfold fk
    rcases Nat.lt_or_ge k n with q | q
    · rw [fk_hit h1 h2 n q]
    · have e : n = k := by omega
      subst e
      rw [h1]
      simp [h2]
theorem fk_miss {X : XM} {c k : Nat} (h1 : fk X c k = none) (h2 : canT X (X 2 (4 + c) (k + 1)).toNat c = false) : fk X c (k + 1) = none := by
  unfold fk
  rw [h1]
  simp [h2]
theorem fc_hit {X : XM} {c k : Nat} (h1 : fc X c = none) (h2 : fk X c (X 1 (4 + c) 2).toNat = some k) : ∀ n, c < n → fc X n = some (c, k)
  | 0, h => absurd h (Nat.not_lt_zero _)
  | n + 1, h => by
    unfold fc
    rcases Nat.lt_or_ge c n with q | q
    · rw [fc_hit h1 h2 n q]
    · have e : n = c := by omega
      subst e
      rw [h1, h2]
      rfl
theorem fc_miss {X : XM} {c : Nat} (h1 : fc X c = none) (h2 : fk X c (X 1 (4 + c) 2).toNat = none) : fc X (c + 1) = none := by
  unfold fc
  rw [h1, h2]
  rfl
def FM (X X' : XM) : Prop := ∀ kk, (kk < 41 ∨ 69 ≤ kk) → X' kk = X kk
theorem FM.rf (X : XM) : FM X X := fun _ _ => rfl
theorem FM.tr {X Y Z : XM} (h1 : FM X Y) (h2 : FM Y Z) : FM X Z := fun kk h => (h2 kk h).trans (h1 kk h)
theorem frM {g : Gt} {d : Nat} {a : Value} {h : AH} {y m m2 : Int} {f : Int} (e : m = m2) (c : Pr g M_X12_freeFor d [a, .int (J y), .int (J m2)] h (some (.int (J f)))) : Pr g M_X12_freeFor d [a, .int (J y), .int (J m)] h (some (.int (J f))) := by rw [e]; exact c
theorem give_rm {O X X3 X' : XM} (hO : WO O) (hM : RM O X) {c k s : Nat} (hc : (c : Int) < nC O) (hk : (k : Int) < O 1 (4 + c) 2) (hs : (s : Int) = O 2 (4 + c) (k + 1)) (hX3 : X3 = xs X 52 0 s (((X 52 0 s).toNat ||| 1 <<< c : Nat) : Int))
    (hP : (∀ kk, kk ≠ 48 → kk ≠ 49 → X' kk = X3 kk) ∧ (∀ j, X' 48 0 j = if j = c then X3 48 0 c - 1 else X3 48 0 j) ∧ (∀ q : Nat, X' 49 0 q = if 6 * c + k ≤ q ∧ (q : Int) < 6 * c + (X3 48 0 c - 1) then X3 49 0 (q + 1) else X3 49 0 q)) : RM (seat O c k) X' ∧ FM X X' := by
  have q1 := wo_nC hO
  have q2 := wo_nS hO
  have q3 := wo_wA hO c k hc hk
  have e : (O 2 (4 + c) (k + 1)).toNat = s := by omega
  have h3 : RM (xs O 5 s c 1) X3 := rm_t1 hM (by omega) (by omega) (by omega) (fun kk _ _ q => by rw [hX3]; exact xs_nk q) (fun j => by rw [hX3, xs_at])
  have hO3 : WO (xs O 5 s c 1) := wo_t1 hO (by omega) hc (by have := wo_wt3 hO c k hc hk; rw [e] at this; exact this)
  have m1 : xs O 5 s c 1 1 = O 1 := xs_nk (by decide)
  refine ⟨?_, fun kk q => ?_⟩
  · unfold seat
    rw [e]
    exact rm_lv h3 hO3 (by unfold nC; rw [m1]; exact hc) (by rw [m1]; exact hk) (fun kk _ _ q => hP.1 kk q.1 q.2) hP.2.1 hP.2.2
  · rw [hP.1 kk (by omega) (by omega), hX3]
    exact xs_nk (by omega)
set_option maxRecDepth 100000 in
set_option maxHeartbeats 4000000 in
theorem c_X12_mayTake {g : Gt} {α : AL} {ν : Nat → Nat → Bool} {X : XM} {h : AH} (hT : TR g α ν X h) {O : XM} (hO : WO O) (hM : RM O X) {s : Nat} (hs : (s : Int) < nS O) {c : Nat} (hc : (c : Int) < nC O) : Pr g M_X12_mayTake 15 [.ref (α 40 0), .int (J (s : Int)), .int (J (c : Int))] h (some (.int (J (bi (mayT O s c))))) := by
  refine pr_of rfl rfl (ls := [some (.ref (α 40 0)), some (.int (J (s : Int))), some (.int (J (c : Int)))]) rfl (Nat.le_of_ble_eq_true rfl) ?_
  show Ev g M_X12_mayTake 15 0 [some (.ref (α 40 0)), some (.int (J (s : Int))), some (.int (J (c : Int)))] [] h 0 0 (PQ (some (.int (J (bi (mayT O s c))))) h)
  have q0 := rm_nC hM
  have q1 := wo_nC hO
  have q2 := rm_nS hM
  have q3 := wo_nS hO
  have q4 := rm_req hM c hc
  have q5 := wo_req hO c hc
  have q6 := wo_nF hO
  refine ev_ald0 1 dX12_mayTake_0 rfl ?_
  refine ev_getfield 4 14 7 fl_X12_19_14 (tr40 hT) rfl dX12_mayTake_1 rfl ?_
  refine ev_ild2 5 dX12_mayTake_4 rfl ?_
  refine tv_iald 6 (tr47 hT) (c) (by omega) (by omega) (by omega) dX12_mayTake_5 rfl ?_
  refine tj_iconst 7 dX12_mayTake_6 rfl ?_
  refine tj_icmp_eq 24 10 dX12_mayTake_7 (by decide) rfl (by first | exact TR.rng hT _ _ _ | exact R31_of _ | exact bi_R _ | (constructor <;> omega)) (by first | exact TR.rng hT _ _ _ | exact R31_of _ | exact bi_R _ | (constructor <;> omega)) (fun c7 => ?_) (fun c7 => ?_)
  · skip
    refine tj_iconst 25 dX12_mayTake_24 rfl ?_
    refine ev_goto 29 dX12_mayTake_25 (by decide) ?_
    exact tz_ret (by first | rfl | omega | exact bi_dt (by omega) | exact bi_df (by omega) | (unfold mayT; rw [← q4]; first | (rw [decide_eq_true (by omega)]; rfl) | (rw [decide_eq_false (by omega)]; show _ = bi (holF O (O 8 s) (tak O s) (ernd O s) (X 47 0 c).toNat); rw [c21]; rfl))) rfl dX12_mayTake_29
  · skip
    refine ev_ald0 11 dX12_mayTake_10 rfl ?_
    refine ev_ald0 12 dX12_mayTake_11 rfl ?_
    refine ev_getfield 15 14 7 fl_X12_19_14 (tr40 hT) rfl dX12_mayTake_12 rfl ?_
    refine ev_ild2 16 dX12_mayTake_15 rfl ?_
    refine tv_iald 17 (tr47 hT) (c) (by omega) (by omega) (by omega) dX12_mayTake_16 rfl ?_
    refine ev_ild1 18 dX12_mayTake_17 rfl ?_
    refine tc_V2 21 14 dX12_mayTake_18 lkv_X12_130 (tr40 hT) rfl rfl (by first | decide | omega) (Nat.le_of_ble_eq_true rfl) (c_X12_holdsNow_s hT hO hM hs (X 47 0 c) (by omega) (by omega) 14 (by have := wo_dep hO (X 47 0 c).toNat (by omega); omega)) ?_
    refine tb_if_eq 28 24 dX12_mayTake_21 (by decide) rfl (fun c21 => ?_) (fun c21 => ?_)
    · skip
      refine tj_iconst 29 dX12_mayTake_28 rfl ?_
      exact tz_ret (by first | rfl | omega | exact bi_dt (by omega) | exact bi_df (by omega) | (unfold mayT; rw [← q4]; first | (rw [decide_eq_true (by omega)]; rfl) | (rw [decide_eq_false (by omega)]; show _ = bi (holF O (O 8 s) (tak O s) (ernd O s) (X 47 0 c).toNat); rw [c21]; rfl))) rfl dX12_mayTake_29
    · skip
      refine tj_iconst 25 dX12_mayTake_24 rfl ?_
      refine ev_goto 29 dX12_mayTake_25 (by decide) ?_
      exact tz_ret (by first | rfl | omega | exact bi_dt (by omega) | exact bi_df (by omega) | (unfold mayT; rw [← q4]; first | (rw [decide_eq_true (by omega)]; rfl) | (rw [decide_eq_false (by omega)]; show _ = bi (holF O (O 8 s) (tak O s) (ernd O s) (X 47 0 c).toNat); rw [c21]; rfl))) rfl dX12_mayTake_29
set_option maxRecDepth 100000 in
set_option maxHeartbeats 4000000 in
theorem c_X12_canTake {g : Gt} {α : AL} {ν : Nat → Nat → Bool} {X : XM} {h : AH} (hT : TR g α ν X h) {O : XM} (hO : WO O) (hM : RM O X) {s : Nat} (hs : (s : Int) < nS O) {c : Nat} (hc : (c : Int) < nC O) : Pr g M_X12_canTake 16 [.ref (α 40 0), .int (J (s : Int)), .int (J (c : Int))] h (some (.int (J (bi (canT O s c))))) := by
  refine pr_of rfl rfl (ls := [some (.ref (α 40 0)), some (.int (J (s : Int))), some (.int (J (c : Int)))]) rfl (Nat.le_of_ble_eq_true rfl) ?_
  show Ev g M_X12_canTake 16 0 [some (.ref (α 40 0)), some (.int (J (s : Int))), some (.int (J (c : Int)))] [] h 0 0 (PQ (some (.int (J (bi (canT O s c))))) h)
  have q0 := rm_nC hM
  have q1 := wo_nC hO
  have q2 := rm_nS hM
  have q3 := wo_nS hO
  have q4 := rm_maj hM s hs
  have q5 := wo_maj hO s hs
  have q6 := free_0 hO hc (O 4 s 0)
  refine ev_ald0 1 dX12_canTake_0 rfl ?_
  refine ev_ild2 2 dX12_canTake_1 rfl ?_
  refine ev_ald0 3 dX12_canTake_2 rfl ?_
  refine ev_getfield 6 14 11 fl_X12_28_14 (tr40 hT) rfl dX12_canTake_3 rfl ?_
  refine ev_ild1 7 dX12_canTake_6 rfl ?_
  refine tv_iald 8 (tr51 hT) (s) (by omega) (by omega) (by omega) dX12_canTake_7 rfl ?_
  refine tc_V2 11 14 dX12_canTake_8 lkv_X12_170 (tr40 hT) rfl rfl (by first | decide | omega) (Nat.le_of_ble_eq_true rfl) (frM q4 (c_X12_freeFor hT hO hM (by omega) (by first | exact TR.rng hT _ _ _ | exact R31_of _ | exact bi_R _ | (constructor <;> omega)))) ?_
  refine tj_if_le 36 14 dX12_canTake_11 (by decide) rfl (by first | exact TR.rng hT _ _ _ | exact R31_of _ | exact bi_R _ | (constructor <;> omega)) (fun c11 => ?_) (fun c11 => ?_)
  · skip
    refine tj_iconst 37 dX12_canTake_36 rfl ?_
    exact tz_ret (by first | rfl | omega | exact bi_dt (by omega) | exact bi_df (by omega) | (unfold canT; first | (rw [decide_eq_false (by omega)]; rfl) | (rw [decide_eq_true (by omega), c20]; rfl) | (rw [decide_eq_true (by omega), c20, c29]; rfl))) rfl dX12_canTake_37
  · skip
    refine ev_ald0 15 dX12_canTake_14 rfl ?_
    refine ev_ild1 16 dX12_canTake_15 rfl ?_
    refine ev_ild2 17 dX12_canTake_16 rfl ?_
    refine tc_V2 20 14 dX12_canTake_17 lkv_X12_173 (tr40 hT) rfl rfl (by first | decide | omega) (Nat.le_of_ble_eq_true rfl) (c_X12_fits hT hO hM (by omega) (by omega)) ?_
    refine tb_if_eq 36 23 dX12_canTake_20 (by decide) rfl (fun c20 => ?_) (fun c20 => ?_)
    · skip
      refine tj_iconst 37 dX12_canTake_36 rfl ?_
      exact tz_ret (by first | rfl | omega | exact bi_dt (by omega) | exact bi_df (by omega) | (unfold canT; first | (rw [decide_eq_false (by omega)]; rfl) | (rw [decide_eq_true (by omega), c20]; rfl) | (rw [decide_eq_true (by omega), c20, c29]; rfl))) rfl dX12_canTake_37
    · skip
      refine ev_ald0 24 dX12_canTake_23 rfl ?_
      refine ev_ild1 25 dX12_canTake_24 rfl ?_
      refine ev_ild2 26 dX12_canTake_25 rfl ?_
      refine tc_V2 29 14 dX12_canTake_26 lkv_X12_176 (tr40 hT) rfl rfl (by first | decide | omega) (Nat.le_of_ble_eq_true rfl) (c_X12_mayTake hT hO hM (by omega) (by omega)) ?_
      refine tb_if_eq 36 32 dX12_canTake_29 (by decide) rfl (fun c29 => ?_) (fun c29 => ?_)
      · skip
        refine tj_iconst 37 dX12_canTake_36 rfl ?_
        exact tz_ret (by first | rfl | omega | exact bi_dt (by omega) | exact bi_df (by omega) | (unfold canT; first | (rw [decide_eq_false (by omega)]; rfl) | (rw [decide_eq_true (by omega), c20]; rfl) | (rw [decide_eq_true (by omega), c20, c29]; rfl))) rfl dX12_canTake_37
      · skip
        refine tj_iconst 33 dX12_canTake_32 rfl ?_
        refine ev_goto 37 dX12_canTake_33 (by decide) ?_
        exact tz_ret (by first | rfl | omega | exact bi_dt (by omega) | exact bi_df (by omega) | (unfold canT; first | (rw [decide_eq_false (by omega)]; rfl) | (rw [decide_eq_true (by omega), c20]; rfl) | (rw [decide_eq_true (by omega), c20, c29]; rfl))) rfl dX12_canTake_37
set_option maxRecDepth 100000 in
set_option maxHeartbeats 4000000 in
theorem c_X12_givesOne {g : Gt} {α : AL} {ν : Nat → Nat → Bool} {X : XM} {h : AH} (hT : TR g α ν X h) {O : XM} (hO : WO O) (hM : RM O X) : Mu g α ν M_X12_givesOne 17 [.ref (α 40 0)] h (some (.int (J (bi (fstW O).isSome)))) (fun X' => (fstW O = none ∧ X' = X) ∨ ∃ c k, fstW O = some (c, k) ∧ RM (seat O c k) X' ∧ FM X X') := by
  refine mu_of rfl rfl (ls := [some (.ref (α 40 0)), none, none, none]) rfl (Nat.le_of_ble_eq_true rfl) ?_
  show Ev g M_X12_givesOne 17 0 [some (.ref (α 40 0)), none, none, none] [] h 0 0 (UQ g α ν (some (.int (J (bi (fstW O).isSome)))) (fun X' => (fstW O = none ∧ X' = X) ∨ ∃ c k, fstW O = some (c, k) ∧ RM (seat O c k) X' ∧ FM X X'))
  have q0 := rm_nC hM
  have q1 := wo_nC hO
  have q2 := rm_nS hM
  have q3 := wo_nS hO
  refine tj_iconst 1 dX12_givesOne_0 rfl ?_
  refine ev_ist1 2 dX12_givesOne_1 rfl (by decide) rfl ?_
  have lp2 : ∀ (n2 : Nat) (c : Nat) (z1 : Int) (o2 o3 : Option Value), 21 - c < n2 → ((c : Int) ≤ nC O) → (fc O c = none) → z1 = (c : Int) → Ev g M_X12_givesOne 17 2 [some (.ref (α 40 0)), some (.int (J z1)), o2, o3] [] h 0 0 (UQ g α ν (some (.int (J (bi (fstW O).isSome)))) (fun X' => (fstW O = none ∧ X' = X) ∨ ∃ c k, fstW O = some (c, k) ∧ RM (seat O c k) X' ∧ FM X X')) := by
    intro n2
    induction n2 with
    | zero => intro c z1 o2 o3 hm; exact absurd hm (Nat.not_lt_zero _)
    | succ n2 ih2 =>
      intro c z1 o2 o3 hm2 hc hf e1
      subst e1
      refine ev_ild1 3 dX12_givesOne_2 rfl ?_
      refine ev_ald0 4 dX12_givesOne_3 rfl ?_
      refine ev_getfield 7 14 3 fl_X12_93_14 (tr40 hT) rfl dX12_givesOne_4 rfl ?_
      refine tj_icmp_ge 75 10 dX12_givesOne_7 (by decide) rfl (by first | exact TR.rng hT _ _ _ | exact R31_of _ | exact bi_R _ | (constructor <;> omega)) (by first | exact TR.rng hT _ _ _ | exact R31_of _ | exact bi_R _ | (constructor <;> omega)) (fun c7 => ?_) (fun c7 => ?_)
      · skip
        have hnone : fstW O = none := by unfold fstW; rw [show (nC O).toNat = c by omega]; exact hf
        refine tj_iconst 76 dX12_givesOne_75 rfl ?_
        exact tz_retU (by first | rfl | omega | exact bi_dt (by omega) | exact bi_df (by omega) | (first | (rw [hfst]; rfl) | (rw [hnone]; rfl))) hT (by first | exact Or.inl ⟨hnone, rfl⟩ | exact Or.inr ⟨c, k, hfst, give_rm hO hM hc2 hk9 r3 hX3 hP58⟩) rfl dX12_givesOne_76
      · skip
        have r1 := rm_wN hM c (by omega)
        have r2 := wo_wN hO c (by omega)
        refine tj_iconst 11 dX12_givesOne_10 rfl ?_
        refine ev_ist2 12 dX12_givesOne_11 rfl (by decide) rfl ?_
        have lp12 : ∀ (n12 : Nat) (k : Nat) (z2 : Int) (o3 : Option Value), 7 - k < n12 → ((k : Int) ≤ O 1 (4 + c) 2) → (fk O c k = none) → z2 = (k : Int) → Ev g M_X12_givesOne 17 12 [some (.ref (α 40 0)), some (.int (J (c : Int))), some (.int (J z2)), o3] [] h 0 0 (UQ g α ν (some (.int (J (bi (fstW O).isSome)))) (fun X' => (fstW O = none ∧ X' = X) ∨ ∃ c k, fstW O = some (c, k) ∧ RM (seat O c k) X' ∧ FM X X')) := by
          intro n12
          induction n12 with
          | zero => intro k z2 o3 hm; exact absurd hm (Nat.not_lt_zero _)
          | succ n12 ih12 =>
            intro k z2 o3 hm12 hk hk2 e2
            subst e2
            refine ev_ild2 13 dX12_givesOne_12 rfl ?_
            refine ev_ald0 14 dX12_givesOne_13 rfl ?_
            refine ev_getfield 17 14 8 fl_X12_22_14 (tr40 hT) rfl dX12_givesOne_14 rfl ?_
            refine ev_ild1 18 dX12_givesOne_17 rfl ?_
            refine tv_iald 19 (tr48 hT) (c) (by omega) (by omega) (by omega) dX12_givesOne_18 rfl ?_
            refine tj_icmp_ge 69 22 dX12_givesOne_19 (by decide) rfl (by first | exact TR.rng hT _ _ _ | exact R31_of _ | exact bi_R _ | (constructor <;> omega)) (by first | exact TR.rng hT _ _ _ | exact R31_of _ | exact bi_R _ | (constructor <;> omega)) (fun c19 => ?_) (fun c19 => ?_)
            · skip
              refine tj_inc1 72 dX12_givesOne_69 rfl (by decide) rfl ?_
              refine ev_goto 2 dX12_givesOne_72 (by decide) ?_
              exact ih2 (c + 1) _ _ _ (by omega) (by first | omega | assumption | first | rfl | exact fc_miss hf (by rw [show (O 1 (4 + c) 2).toNat = k by omega]; exact hk2)) (by first | omega | assumption | first | rfl | exact fc_miss hf (by rw [show (O 1 (4 + c) 2).toNat = k by omega]; exact hk2)) (by first | rfl | omega | (omega))
            · skip
              have r3 := rm_wA hM c k (by omega) (by omega)
              have r4 := wo_wA hO c k (by omega) (by omega)
              obtain ⟨s, hs⟩ : ∃ s : Nat, X 49 0 (6 * c + k) = (s : Int) := ⟨(X 49 0 (6 * c + k)).toNat, by omega⟩
              rw [hs] at r3
              refine ev_ald0 23 dX12_givesOne_22 rfl ?_
              refine ev_getfield 26 14 9 fl_X12_25_14 (tr40 hT) rfl dX12_givesOne_23 rfl ?_
              refine tj_bipush 28 dX12_givesOne_26 (by decide) rfl ?_
              refine ev_ild1 29 dX12_givesOne_28 rfl ?_
              refine tj_imul 30 dX12_givesOne_29 rfl ?_
              refine ev_ild2 31 dX12_givesOne_30 rfl ?_
              refine tj_iadd 32 dX12_givesOne_31 rfl ?_
              refine tv_iald 33 (tr49 hT) (((6 * c) + k)) (by omega) (by omega) (by omega) dX12_givesOne_32 rfl ?_
              rw [hs]
              refine ev_ist3 34 dX12_givesOne_33 rfl (by decide) rfl ?_
              refine ev_ald0 35 dX12_givesOne_34 rfl ?_
              refine ev_ild3 36 dX12_givesOne_35 rfl ?_
              refine ev_ild1 37 dX12_givesOne_36 rfl ?_
              refine tc_V2 40 14 dX12_givesOne_37 lkv_X12_179 (tr40 hT) rfl rfl (by first | decide | omega) (Nat.le_of_ble_eq_true rfl) (c_X12_canTake hT hO hM (by omega) (by omega)) ?_
              refine tb_if_eq 63 43 dX12_givesOne_40 (by decide) rfl (fun c40 => ?_) (fun c40 => ?_)
              · skip
                refine tj_inc2 66 dX12_givesOne_63 rfl (by decide) rfl ?_
                refine ev_goto 12 dX12_givesOne_66 (by decide) ?_
                exact ih12 (k + 1) _ _ (by omega) (by first | omega | assumption | first | rfl | exact fk_miss hk2 (by rw [← r3, show ((s : Int)).toNat = s from rfl]; exact c40)) (by first | omega | assumption | first | rfl | exact fk_miss hk2 (by rw [← r3, show ((s : Int)).toNat = s from rfl]; exact c40)) (by first | rfl | omega | (omega))
              · skip
                have t1 := rm_tak hM s (by omega)
                have t2 := bitsE_set t1 (c := c) (by omega) (f2 := xs O 5 s c 1 5 s) (by rw [xs_at, if_pos rfl]; decide) (fun j hj => by rw [xs_at, if_neg hj])
                have t3 := t2.1
                have t4 := t2.2.1
                have t5 := t1.1
                have hc2 : (c : Int) < nC O := by omega
                have hk9 : (k : Int) < O 1 (4 + c) 2 := by omega
                have hfst : fstW O = some (c, k) := fc_hit hf (fk_hit hk2 (by rw [← r3, show ((s : Int)).toNat = s from rfl]; exact c40) _ (by omega)) _ (by omega)
                refine ev_ald0 44 dX12_givesOne_43 rfl ?_
                refine ev_getfield 47 14 12 fl_X12_31_14 (tr40 hT) rfl dX12_givesOne_44 rfl ?_
                refine ev_ild3 48 dX12_givesOne_47 rfl ?_
                refine ev_dup2 49 dX12_givesOne_48 rfl rfl rfl ?_
                refine tv_iald 50 (tr52 hT) (s) (by omega) (by omega) (by omega) dX12_givesOne_49 rfl ?_
                refine tj_iconst 51 dX12_givesOne_50 rfl ?_
                refine ev_ild1 52 dX12_givesOne_51 rfl ?_
                refine tj_ishl 53 dX12_givesOne_52 1 c rfl rfl (by omega) rfl ?_
                refine tj_ior 54 dX12_givesOne_53 (X 52 0 s).toNat (1 <<< c) (by omega) rfl rfl ?_
                refine tv_iast 55 hT (tv52 hT) (fun _ => rfl) (s) (by omega) (by omega) (by omega) (by first | exact TR.rng hT _ _ _ | exact R31_of _ | exact bi_R _ | (constructor <;> omega)) dX12_givesOne_54 rfl (fun h hT => ?_)
                obtain ⟨X3, hX3⟩ : ∃ Z, Z = xs X 52 0 s (((X 52 0 s).toNat ||| 1 <<< c : Nat) : Int) := ⟨_, rfl⟩
                rw [← hX3] at hT
                have e3 : ∀ kk, kk ≠ 52 → X3 kk = X kk := fun kk q => by rw [hX3]; exact xs_nk q
                have e48 : X3 48 0 c = X 48 0 c := by rw [e3 48 (by decide)]
                refine ev_ald0 56 dX12_givesOne_55 rfl ?_
                refine ev_ild1 57 dX12_givesOne_56 rfl ?_
                refine ev_ild2 58 dX12_givesOne_57 rfl ?_
                refine tmv_V2 61 14 dX12_givesOne_58 lkv_X12_182 (tr40 hT) rfl rfl (by first | decide | omega) (Nat.le_of_ble_eq_true rfl) (c_X12_leaves hT (by omega) (by omega) (by omega)) (fun h X1 hT hP58 => ?_)
                refine tj_iconst 62 dX12_givesOne_61 rfl ?_
                exact tz_retU (by first | rfl | omega | exact bi_dt (by omega) | exact bi_df (by omega) | (first | (rw [hfst]; rfl) | (rw [hnone]; rfl))) hT (by first | exact Or.inl ⟨hnone, rfl⟩ | exact Or.inr ⟨c, k, hfst, give_rm hO hM hc2 hk9 r3 hX3 hP58⟩) rfl dX12_givesOne_62
        exact lp12 _ (0) _ _ (Nat.lt_succ_self _) (by first | omega | assumption | first | rfl | exact fk_miss hk2 (by rw [← r3, show ((s : Int)).toNat = s from rfl]; exact c40)) (by first | omega | assumption | first | rfl | exact fk_miss hk2 (by rw [← r3, show ((s : Int)).toNat = s from rfl]; exact c40)) (by first | rfl | omega | (omega))
  exact lp2 _ (0) _ _ _ (Nat.lt_succ_self _) (by first | omega | assumption | first | rfl | exact fc_miss hf (by rw [show (O 1 (4 + c) 2).toNat = k by omega]; exact hk2)) (by first | omega | assumption | first | rfl | exact fc_miss hf (by rw [show (O 1 (4 + c) 2).toNat = k by omega]; exact hk2)) (by first | rfl | omega | (omega))
theorem gvN_none {X : XM} (h : fstW X = none) : ∀ n, gvN n X = X
  | 0 => rfl
  | n + 1 => by unfold gvN; rw [h]
theorem gvN_some {X : XM} {p : Nat × Nat} (h : fstW X = some p) (n : Nat) : gvN (n + 1) X = gvN n (seat X p.1 p.2) := by
  show (match fstW X with | none => X | some p => gvN n (seat X p.1 p.2)) = _
  rw [h]
theorem seat_day (X : XM) (c k : Nat) : seat X c k 0 = X 0 := by
  unfold seat
  rw [lv_k (by decide) (by decide)]
  exact xs_nk (by decide)
theorem wo_seat {X : XM} (hO : WO X) {c k : Nat} (hc : (c : Int) < nC X) (hk : (k : Int) < X 1 (4 + c) 2) : WO (seat X c k) := by
  have m1 : xs X 5 (X 2 (4 + c) (k + 1)).toNat c 1 1 = X 1 := xs_nk (by decide)
  have q := wo_wA hO c k hc hk
  exact wo_lv (wo_t1 hO (by omega) hc (wo_wt3 hO c k hc hk)) (by unfold nC; rw [m1]; exact hc) (by rw [m1]; exact hk)
set_option maxRecDepth 100000 in
set_option maxHeartbeats 4000000 in
theorem c_X12_givesOut {g : Gt} {α : AL} {ν : Nat → Nat → Bool} {X : XM} {h : AH} (hT : TR g α ν X h) {O : XM} (hO : WO O) (hM : RM O X) : Mu g α ν M_X12_givesOut 18 [.ref (α 40 0)] h (none) (fun X' => RM (gv O) X' ∧ FM X X') := by
  refine mu_of rfl rfl (ls := [some (.ref (α 40 0)), none]) rfl (Nat.le_of_ble_eq_true rfl) ?_
  show Ev g M_X12_givesOut 18 0 [some (.ref (α 40 0)), none] [] h 0 0 (UQ g α ν (none) (fun X' => RM (gv O) X' ∧ FM X X'))
  have q0 := rm_nC hM
  have q1 := wo_nC hO
  have q2 := rm_nS hM
  have q3 := wo_nS hO
  have q4 := rm_day hM
  have q5 := wo_day hO
  have q6 := tw_0 hO
  refine ev_ald0 1 dX12_givesOut_0 rfl ?_
  refine ev_getfield 4 14 1 fl_X12_164_14 (tr40 hT) rfl dX12_givesOut_1 rfl ?_
  refine tj_iconst 5 dX12_givesOut_4 rfl ?_
  refine tj_icmp_gt 12 8 dX12_givesOut_5 (by decide) rfl (by first | exact TR.rng hT _ _ _ | exact R31_of _ | exact bi_R _ | (constructor <;> omega)) (by first | exact TR.rng hT _ _ _ | exact R31_of _ | exact bi_R _ | (constructor <;> omega)) (fun c5 => ?_) (fun c5 => ?_)
  · skip
    refine tj_iconst 13 dX12_givesOut_12 rfl ?_
    refine ev_ist1 14 dX12_givesOut_13 rfl (by decide) rfl ?_
    have lp14 : ∀ (n14 : Nat) (n : Nat) (O1 : XM) (p : Bool) (z1 : Int)  (h2 : AH) (X2 : XM), n < n14 → (WO O1) → (p = true → tw O1 < n ∧ gvN n O1 = gv O) → (p = false → O1 = gv O) → z1 = bi p → TR g α ν X2 h2 → RM O1 X2 ∧ FM X X2 → Ev g M_X12_givesOut 18 14 [some (.ref (α 40 0)), some (.int (J z1))] [] h2 0 0 (UQ g α ν (none) (fun X' => RM (gv O) X' ∧ FM X X')) := by
      intro n14
      induction n14 with
      | zero => intro n O1 p z1 h2 X2 hm; exact absurd hm (Nat.not_lt_zero _)
      | succ n14 ih14 =>
        intro n O1 p z1 h2 X2 hm14 hO1 hg hp e1 hT hI
        subst e1
        refine ev_ild1 15 dX12_givesOut_14 rfl ?_
        refine tb_if_eq 26 18 dX12_givesOut_15 (by decide) rfl (fun c15 => ?_) (fun c15 => ?_)
        · skip
          exact ev_vreturn (uq_v hT (by rw [← hp c15]; exact hI)) rfl dX12_givesOut_26
        · skip
          refine ev_ald0 19 dX12_givesOut_18 rfl ?_
          refine tm_V0 22 14 dX12_givesOut_19 lkv_X12_186 (tr40 hT) rfl rfl (by first | decide | omega) (Nat.le_of_ble_eq_true rfl) (c_X12_givesOne hT hO1 hI.1) (fun h X1 hT hP19 => ?_)
          refine ev_ist1 23 dX12_givesOut_22 rfl (by decide) rfl ?_
          refine ev_goto 14 dX12_givesOut_23 (by decide) ?_
          obtain ⟨g1, g2⟩ := hg c15
          have g3 := tw_0 hO1
          rcases hP19 with ⟨e, e2⟩ | ⟨c, k, e, r1, r2⟩
          · exact ih14 (n - 1) O1 false _ _ _ (by omega) hO1 (fun z => by cases z) (fun _ => by rw [← g2, gvN_none e]) (by rw [e]; rfl) hT (by rw [e2]; exact hI)
          · have f1 := fst_lt hO1 e
            refine ih14 (n - 1) (seat O1 c k) true _ _ _ (by omega) (wo_seat hO1 f1.1 f1.2.1) (fun _ => ⟨by rw [tw_seat c k f1.1]; omega, ?_⟩) (fun z => by cases z) (by rw [e]; rfl) hT ⟨r1, hI.2.tr r2⟩
            rw [← g2, show n = n - 1 + 1 by omega, gvN_some e]
            rfl
    first | exact lp14 _ 121 O true _ _ _ (Nat.lt_succ_self _) hO (fun _ => ⟨by omega, by unfold gv; rw [if_neg (by omega)]⟩) (fun z => by cases z) rfl hT ⟨hM, FM.rf X⟩ | exact lp14 _ 121 O false _ _ _ (Nat.lt_succ_self _) hO (fun z => by cases z) (fun _ => by unfold gv; rw [if_pos (by omega)]) rfl hT ⟨hM, FM.rf X⟩
  · skip
    refine tj_iconst 9 dX12_givesOut_8 rfl ?_
    refine ev_goto 13 dX12_givesOut_9 (by decide) ?_
    refine ev_ist1 14 dX12_givesOut_13 rfl (by decide) rfl ?_
    have lp14 : ∀ (n14 : Nat) (n : Nat) (O1 : XM) (p : Bool) (z1 : Int)  (h2 : AH) (X2 : XM), n < n14 → (WO O1) → (p = true → tw O1 < n ∧ gvN n O1 = gv O) → (p = false → O1 = gv O) → z1 = bi p → TR g α ν X2 h2 → RM O1 X2 ∧ FM X X2 → Ev g M_X12_givesOut 18 14 [some (.ref (α 40 0)), some (.int (J z1))] [] h2 0 0 (UQ g α ν (none) (fun X' => RM (gv O) X' ∧ FM X X')) := by
      intro n14
      induction n14 with
      | zero => intro n O1 p z1 h2 X2 hm; exact absurd hm (Nat.not_lt_zero _)
      | succ n14 ih14 =>
        intro n O1 p z1 h2 X2 hm14 hO1 hg hp e1 hT hI
        subst e1
        refine ev_ild1 15 dX12_givesOut_14 rfl ?_
        refine tb_if_eq 26 18 dX12_givesOut_15 (by decide) rfl (fun c15 => ?_) (fun c15 => ?_)
        · skip
          exact ev_vreturn (uq_v hT (by rw [← hp c15]; exact hI)) rfl dX12_givesOut_26
        · skip
          refine ev_ald0 19 dX12_givesOut_18 rfl ?_
          refine tm_V0 22 14 dX12_givesOut_19 lkv_X12_186 (tr40 hT) rfl rfl (by first | decide | omega) (Nat.le_of_ble_eq_true rfl) (c_X12_givesOne hT hO1 hI.1) (fun h X1 hT hP19 => ?_)
          refine ev_ist1 23 dX12_givesOut_22 rfl (by decide) rfl ?_
          refine ev_goto 14 dX12_givesOut_23 (by decide) ?_
          obtain ⟨g1, g2⟩ := hg c15
          have g3 := tw_0 hO1
          rcases hP19 with ⟨e, e2⟩ | ⟨c, k, e, r1, r2⟩
          · exact ih14 (n - 1) O1 false _ _ _ (by omega) hO1 (fun z => by cases z) (fun _ => by rw [← g2, gvN_none e]) (by rw [e]; rfl) hT (by rw [e2]; exact hI)
          · have f1 := fst_lt hO1 e
            refine ih14 (n - 1) (seat O1 c k) true _ _ _ (by omega) (wo_seat hO1 f1.1 f1.2.1) (fun _ => ⟨by rw [tw_seat c k f1.1]; omega, ?_⟩) (fun z => by cases z) (by rw [e]; rfl) hT ⟨r1, hI.2.tr r2⟩
            rw [← g2, show n = n - 1 + 1 by omega, gvN_some e]
            rfl
    first | exact lp14 _ 121 O true _ _ _ (Nat.lt_succ_self _) hO (fun _ => ⟨by omega, by unfold gv; rw [if_neg (by omega)]⟩) (fun z => by cases z) rfl hT ⟨hM, FM.rf X⟩ | exact lp14 _ 121 O false _ _ _ (Nat.lt_succ_self _) hO (fun z => by cases z) (fun _ => by unfold gv; rw [if_pos (by omega)]) rfl hT ⟨hM, FM.rf X⟩
