/-! THE CLASS: days that pass -/
theorem gvN_c {X : XM} {n : Nat} : gvN (n + 1) X = (match fstW X with | none => X | some p => gvN n (seat X p.1 p.2)) := rfl
theorem wo_gvN : ∀ (n : Nat) {X : XM}, WO X → WO (gvN n X)
  | 0, X, h => h
  | n + 1, X, h => by
    rw [gvN_c]
    cases e : fstW X with
    | none => exact h
    | some p => exact wo_gvN n (wo_seat h (fst_lt h e).1 (fst_lt h e).2.1)
theorem wx_gvN {ν : Nat → Nat → Bool} : ∀ (n : Nat) {X : XM}, WX ν X → WX ν (gvN n X)
  | 0, X, h => h
  | n + 1, X, h => by
    rw [gvN_c]
    cases e : fstW X with
    | none => exact h
    | some p => exact wx_gvN n (wx_seat h (fst_lt h.1 e).1 (fst_lt h.1 e).2.1)
theorem seat_k {X : XM} {c k kk : Nat} (h1 : kk ≠ 1) (h2 : kk ≠ 2) (h5 : kk ≠ 5) : seat X c k kk = X kk := by
  unfold seat
  rw [lv_k h1 h2]
  exact xs_nk h5
theorem gvN_k {kk : Nat} (h1 : kk ≠ 1) (h2 : kk ≠ 2) (h5 : kk ≠ 5) : ∀ (n : Nat) {X : XM}, gvN n X kk = X kk
  | 0, X => rfl
  | n + 1, X => by
    rw [gvN_c]
    cases e : fstW X with
    | none => rfl
    | some p => exact (gvN_k h1 h2 h5 n).trans (seat_k h1 h2 h5)
theorem gvN_l {i : Nat} (hi : i < 4) : ∀ (n : Nat) {X : XM}, gvN n X 1 i 2 = X 1 i 2
  | 0, X => rfl
  | n + 1, X => by
    rw [gvN_c]
    cases e : fstW X with
    | none => rfl
    | some p => exact (gvN_l hi n).trans (seat_l X p.1 p.2 hi)
theorem wo_gv {X : XM} (h : WO X) : WO (gv X) := by unfold gv; split; exact h; exact wo_gvN _ h
theorem wx_gv {ν : Nat → Nat → Bool} {X : XM} (h : WX ν X) : WX ν (gv X) := by unfold gv; split; exact h; exact wx_gvN _ h
theorem gv_k {X : XM} {kk : Nat} (h1 : kk ≠ 1) (h2 : kk ≠ 2) (h5 : kk ≠ 5) : gv X kk = X kk := by unfold gv; split; rfl; exact gvN_k h1 h2 h5 _
theorem gv_l {X : XM} {i : Nat} (hi : i < 4) : gv X 1 i 2 = X 1 i 2 := by unfold gv; split; rfl; exact gvN_l hi _
/-- a day passes -/
def dyB (X : XM) : XM := if X 0 0 5 + 1 = 6 then xs (emA X (nC X).toNat) 0 0 5 (X 0 0 5 + 1) else xs X 0 0 5 (X 0 0 5 + 1)
def dyN (X : XM) : XM := gv (dyB X)
def psN (X : XM) : Nat → XM
  | 0 => X
  | n + 1 => dyN (psN X n)
theorem wx_dyB {ν : Nat → Nat → Bool} {X : XM} (h : WX ν X) (hd : X 0 0 5 + 1 ≤ 30) : WX ν (dyB X) := by
  have q := wo_day h.1
  unfold dyB
  by_cases e : X 0 0 5 + 1 = 6
  · rw [if_pos e]
    refine wx_dy (wx_emA h _) (by omega) (fun _ c hc => ?_)
    rw [emA_w]
    have hc2 : (c : Int) < nC X := by unfold nC at *; rw [emA_l X (by decide)] at hc; exact hc
    rw [if_pos (by omega)]
  · rw [if_neg e]
    exact wx_dy h (by omega) (fun h5 c hc => wo_w6 h.1 c hc (by omega))
theorem wo_dyB {X : XM} (h : WO X) (hd : X 0 0 5 + 1 ≤ 30) : WO (dyB X) := by
  have q := wo_day h
  unfold dyB
  by_cases e : X 0 0 5 + 1 = 6
  · rw [if_pos e]
    have wA : ∀ n, WO (emA X n) := fun n => by
      induction n with
      | zero => exact h
      | succ n ih => exact wo_em ih n _
    refine wo_dy (wA _) (by omega) (fun _ c hc => ?_)
    rw [emA_w]
    have hc2 : (c : Int) < nC X := by unfold nC at *; rw [emA_l X (by decide)] at hc; exact hc
    rw [if_pos (by omega)]
  · rw [if_neg e]
    exact wo_dy h (by omega) (fun h5 c hc => wo_w6 h c hc (by omega))
theorem dyN_day (X : XM) : dyN X 0 0 5 = X 0 0 5 + 1 := by
  unfold dyN
  rw [gv_k (by decide) (by decide) (by decide)]
  unfold dyB
  split <;> rw [xs_at, if_pos rfl]
theorem psN_day (X : XM) : ∀ n : Nat, psN X n 0 0 5 = X 0 0 5 + n
  | 0 => by show X 0 0 5 = X 0 0 5 + ((0 : Nat) : Int); omega
  | n + 1 => by rw [psN, dyN_day, psN_day X n]; omega
theorem wx_psN {ν : Nat → Nat → Bool} {X : XM} (h : WX ν X) : ∀ n : Nat, X 0 0 5 + n ≤ 30 → WX ν (psN X n)
  | 0, _ => h
  | n + 1, hn => wx_gv (wx_dyB (wx_psN h n (by omega)) (by rw [psN_day]; omega))
theorem wo_psN {X : XM} (h : WO X) : ∀ n : Nat, X 0 0 5 + n ≤ 30 → WO (psN X n)
  | 0, _ => h
  | n + 1, hn => wo_gv (wo_dyB (wo_psN h n (by omega)) (by rw [psN_day]; omega))
theorem dyB_l (X : XM) {i : Nat} (hi : i < 4) : dyB X 1 i 2 = X 1 i 2 := by
  unfold dyB
  split
  · rw [xs_nk (by decide), emA_l X hi]
  · rw [xs_nk (by decide)]
theorem psN_l (X : XM) {i : Nat} (hi : i < 4) : ∀ n, psN X n 1 i 2 = X 1 i 2
  | 0 => rfl
  | n + 1 => by rw [psN, dyN, gv_l hi, dyB_l _ hi, psN_l X hi n]
set_option maxRecDepth 100000 in
set_option maxHeartbeats 4000000 in
theorem c_X11_pass_ok {g : Gt} {α : AL} {ν : Nat → Nat → Bool} {X : XM} {h : AH} (hT : TR g α ν X h) (hW : WX ν X) {n : Nat} (h1 : 1 ≤ n) (hm : (n : Int) ≤ 30 - X 0 0 5) : Mu g α ν M_X11_pass 28 [.ref (α 0 0), .int (J (n : Int))] h (some (.int (J (X 0 0 5 + n)))) (fun X' => X' = psN X n ∧ WX ν X') := by
  refine mu_of rfl rfl (ls := [some (.ref (α 0 0)), some (.int (J (n : Int))), none]) rfl (Nat.le_of_ble_eq_true rfl) ?_
  show Ev g M_X11_pass 28 0 [some (.ref (α 0 0)), some (.int (J (n : Int))), none] [] h 0 0 (UQ g α ν (some (.int (J (X 0 0 5 + n)))) (fun X' => X' = psN X n ∧ WX ν X'))
  have q1 := wo_nC hW.1
  have q3 := wo_nS hW.1
  have qd := wo_day hW.1
  have hW0 := hW
  refine ev_ild1 1 dX11_pass_0 rfl ?_
  refine tj_iconst 2 dX11_pass_1 rfl ?_
  refine tj_icmp_ge 15 5 dX11_pass_2 (by decide) rfl (by first | exact TR.rng hT _ _ _ | exact R31_of _ | exact bi_R _ | (constructor <;> omega)) (by first | exact TR.rng hT _ _ _ | exact R31_of _ | exact bi_R _ | (constructor <;> omega)) (fun c2 => ?_) (fun c2 => ?_)
  · skip
    refine ev_ild1 16 dX11_pass_15 rfl ?_
    refine tj_bipush 18 dX11_pass_16 (by decide) rfl ?_
    refine ev_ald0 19 dX11_pass_18 rfl ?_
    refine ev_getfield 22 13 5 fl_X11_180_13 (tr0 hT) rfl dX11_pass_19 rfl ?_
    refine tj_isub 23 dX11_pass_22 rfl ?_
    refine tj_icmp_le 36 26 dX11_pass_23 (by decide) rfl (by first | exact TR.rng hT _ _ _ | exact R31_of _ | exact bi_R _ | (constructor <;> omega)) (by first | exact TR.rng hT _ _ _ | exact R31_of _ | exact bi_R _ | (constructor <;> omega)) (fun c23 => ?_) (fun c23 => ?_)
    · skip
      refine tj_iconst 37 dX11_pass_36 rfl ?_
      refine ev_ist2 38 dX11_pass_37 rfl (by decide) rfl ?_
      have lp38 : ∀ (n38 : Nat) (k : Nat) (z2 : Int)  (h : AH) (X2 : XM), 31 - k < n38 → (k ≤ n) → z2 = (k : Int) → TR g α ν X2 h → X2 = psN X k → Ev g M_X11_pass 28 38 [some (.ref (α 0 0)), some (.int (J (n : Int))), some (.int (J z2))] [] h 0 0 (UQ g α ν (some (.int (J (X 0 0 5 + n)))) (fun X' => X' = psN X n ∧ WX ν X')) := by
        intro n38
        induction n38 with
        | zero => intro k z2 h X2 hm; exact absurd hm (Nat.not_lt_zero _)
        | succ n38 ih38 =>
          intro k z2 h X2 hm38 hk e2 hT hI
          subst e2
          have hW : WX ν X2 := by rw [hI]; exact wx_psN hW0 k (by omega)
          have ed : X2 0 0 5 = X 0 0 5 + k := by rw [hI, psN_day]
          refine ev_ild2 39 dX11_pass_38 rfl ?_
          refine ev_ild1 40 dX11_pass_39 rfl ?_
          refine tj_icmp_ge 76 43 dX11_pass_40 (by decide) rfl (by first | exact TR.rng hT _ _ _ | exact R31_of _ | exact bi_R _ | (constructor <;> omega)) (by first | exact TR.rng hT _ _ _ | exact R31_of _ | exact bi_R _ | (constructor <;> omega)) (fun c40 => ?_) (fun c40 => ?_)
          · skip
            refine ev_ald0 77 dX11_pass_76 rfl ?_
            refine ev_getfield 80 13 5 fl_X11_180_13 (tr0 hT) rfl dX11_pass_77 rfl ?_
            exact ev_ireturn (uq_i (by first | rfl | omega | exact bi_dt (by omega) | exact bi_df (by omega) | (rw [ed, show k = n by omega])) hT (by rw [show n = k by omega]; exact ⟨hI, hW⟩)) rfl dX11_pass_80
          · skip
            refine ev_ald0 44 dX11_pass_43 rfl ?_
            refine ev_dup 45 dX11_pass_44 rfl rfl ?_
            refine ev_getfield 48 13 5 fl_X11_180_13 (tr0 hT) rfl dX11_pass_45 rfl ?_
            refine tj_iconst 49 dX11_pass_48 rfl ?_
            refine tj_iadd 50 dX11_pass_49 rfl ?_
            refine tv_puti 53 5 .int fl_X11_180_13 fp_13_5 hT (tv0 hT) (fun _ => rfl) rfl (Nat.le_of_ble_eq_true rfl) rfl rfl (by first | exact TR.rng hT _ _ _ | exact R31_of _ | exact bi_R _ | (constructor <;> omega)) dX11_pass_50 rfl (fun h hT => ?_)
            obtain ⟨X3, hX3⟩ : ∃ Z, Z = xs X2 0 0 5 (X2 0 0 5 + 1) := ⟨_, rfl⟩
            rw [← hX3] at hT
            have e3 : X3 0 0 5 = X2 0 0 5 + 1 := by rw [hX3, xs_at, if_pos rfl]
            refine ev_ald0 54 dX11_pass_53 rfl ?_
            refine ev_getfield 57 13 5 fl_X11_180_13 (tr0 hT) rfl dX11_pass_54 rfl ?_
            refine tj_bipush 59 dX11_pass_57 (by decide) rfl ?_
            refine tj_icmp_ne 66 62 dX11_pass_59 (by decide) rfl (by first | exact TR.rng hT _ _ _ | exact R31_of _ | exact bi_R _ | (constructor <;> omega)) (by first | exact TR.rng hT _ _ _ | exact R31_of _ | exact bi_R _ | (constructor <;> omega)) (fun c59 => ?_) (fun c59 => ?_)
            · skip
              have hX4 : X3 = dyB X2 := by rw [hX3, dyB, if_neg (by omega)]
              have hW : WX ν X3 := by rw [hX4]; exact wx_dyB hW (by omega)
              refine ev_ald0 67 dX11_pass_66 rfl ?_
              refine tmv_V0 70 13 dX11_pass_67 lkv_X11_101 (tr0 hT) rfl rfl (by first | decide | omega) (Nat.le_of_ble_eq_true rfl) (c_X11_giveOutSeats hT hW) (fun h X1 hT hP67 => ?_)
              refine tj_inc2 73 dX11_pass_70 rfl (by decide) rfl ?_
              refine ev_goto 38 dX11_pass_73 (by decide) ?_
              exact ih38 (k + 1) _ _ _ (by omega) (by first | omega | assumption | omega) (by first | rfl | omega | (omega)) hT (by first | assumption | (first | rfl | (rw [hP67.1, hX4, psN, ← hI]; rfl)))
            · skip
              refine ev_ald0 63 dX11_pass_62 rfl ?_
              refine tmv_V0 66 13 dX11_pass_63 lkv_X11_185 (tr0 hT) rfl rfl (by first | decide | omega) (Nat.le_of_ble_eq_true rfl) (c_X11_emptyWaitingLists hT hX3 hW) (fun h X1 hT hP63 => ?_)
              have hX4 : X1 = dyB X2 := by rw [hP63, dyB, if_pos (by omega)]
              have hW : WX ν X1 := by rw [hX4]; exact wx_dyB hW (by omega)
              refine ev_ald0 67 dX11_pass_66 rfl ?_
              refine tmv_V0 70 13 dX11_pass_67 lkv_X11_101 (tr0 hT) rfl rfl (by first | decide | omega) (Nat.le_of_ble_eq_true rfl) (c_X11_giveOutSeats hT hW) (fun h X1 hT hP67 => ?_)
              refine tj_inc2 73 dX11_pass_70 rfl (by decide) rfl ?_
              refine ev_goto 38 dX11_pass_73 (by decide) ?_
              exact ih38 (k + 1) _ _ _ (by omega) (by first | omega | assumption | omega) (by first | rfl | omega | (omega)) hT (by first | assumption | (first | rfl | (rw [hP67.1, hX4, psN, ← hI]; rfl)))
      exact lp38 _ (0) _ _ _ (Nat.lt_succ_self _) (by first | omega | assumption | omega) (by first | rfl | omega | (omega)) hT (by first | assumption | (first | rfl | (rw [hP67.1, hX4, psN, ← hI]; rfl)))
    · exact False.elim (by omega)
  · exact False.elim (by omega)
