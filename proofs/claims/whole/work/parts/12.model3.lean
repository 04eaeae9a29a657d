/-! THE REFERENCE: formulas -/
theorem holF_0 {O : XM} {b : Nat → Int} {t : Nat → Bool} {e : Int} {f : Nat} (h : O 16 f 9 = 0) : holF O b t e f = decide (O 16 f 2 ≤ b (O 16 f 1).toNat) := by
  show (if f = f then evF O b t e f (ttF O b t e f) else _) = _
  rw [if_pos rfl, evF, if_pos h]
theorem holF_1 {O : XM} {b : Nat → Int} {t : Nat → Bool} {e : Int} {f : Nat} (h : O 16 f 9 = 1) : holF O b t e f = (t (O 16 f 1).toNat || decide (50 ≤ b (O 16 f 1).toNat)) := by
  show (if f = f then evF O b t e f (ttF O b t e f) else _) = _
  rw [if_pos rfl, evF, if_neg (by omega), if_pos h]
theorem holF_2 {O : XM} {b : Nat → Int} {t : Nat → Bool} {e : Int} {f : Nat} (h : O 16 f 9 = 2) : holF O b t e f = decide (O 16 f 1 ≤ e) := by
  show (if f = f then evF O b t e f (ttF O b t e f) else _) = _
  rw [if_pos rfl, evF, if_neg (by omega), if_neg (by omega), if_pos h]
theorem holF_3 {O : XM} {b : Nat → Int} {t : Nat → Bool} {e : Int} {f : Nat} (h : O 16 f 9 = 3) (h1 : 0 ≤ O 16 f 2 ∧ O 16 f 2 < f) (h2 : 0 ≤ O 16 f 3 ∧ O 16 f 3 < f) (h3 : -1 ≤ O 16 f 4 ∧ O 16 f 4 < f) : holF O b t e f = decide (O 16 f 1 ≤ bi (holF O b t e (O 16 f 2).toNat) + bi (holF O b t e (O 16 f 3).toNat) + bi (decide (O 16 f 4 ≠ -1) && holF O b t e (O 16 f 4).toNat)) := by
  show (if f = f then evF O b t e f (ttF O b t e f) else _) = _
  rw [if_pos rfl, evF, if_neg (by omega), if_neg (by omega), if_neg (by omega), if_pos h, ttF_lt O b t e (f := (O 16 f 2).toNat) (by omega), ttF_lt O b t e (f := (O 16 f 3).toNat) (by omega)]
  by_cases c : O 16 f 4 = -1
  · simp [c]
  · rw [ttF_lt O b t e (f := (O 16 f 4).toNat) (by omega)]
theorem holF_4 {O : XM} {b : Nat → Int} {t : Nat → Bool} {e : Int} {f : Nat} (h : O 16 f 9 = 4) (h1 : 0 ≤ O 16 f 1 ∧ O 16 f 1 < f) : holF O b t e f = !(holF O b t e (O 16 f 1).toNat) := by
  show (if f = f then evF O b t e f (ttF O b t e f) else _) = _
  rw [if_pos rfl, evF, if_neg (by omega), if_neg (by omega), if_neg (by omega), if_neg (by omega), ttF_lt O b t e (f := (O 16 f 1).toNat) (by omega)]
/-- somebody new: who has passed the courses with nf -/
def nbF (nf : Nat → Int) : Nat → Int := fun c => if nf c ≠ 0 then 100 else -1
def ntF : Nat → Bool := fun _ => false
def neF (O : XM) (nf : Nat → Int) : Int := crS O (fun c => decide (nf c ≠ 0)) (nC O).toNat
/-- the reference's kinds out of the office's -/
theorem fkX {O X : XM} (hO : WO O) (hM : RM O X) {f : Nat} (hf : (f : Int) < nF O) :
    (X 58 0 f = 0 ∧ O 16 f 9 = 0 ∧ O 16 f 1 = X 59 0 f ∧ O 16 f 2 = X 60 0 f ∧ 0 ≤ X 59 0 f ∧ X 59 0 f < nC O ∧ 0 ≤ X 60 0 f ∧ X 60 0 f ≤ 100) ∨
    (X 58 0 f = 1 ∧ O 16 f 9 = 1 ∧ O 16 f 1 = X 59 0 f ∧ 0 ≤ X 59 0 f ∧ X 59 0 f < nC O) ∨
    (X 58 0 f = 2 ∧ O 16 f 9 = 2 ∧ O 16 f 1 = X 59 0 f) ∨
    (X 58 0 f = 3 ∧ O 16 f 9 = 3 ∧ O 16 f 1 = 2 ∧ O 16 f 4 = -1 ∧ O 16 f 2 = X 59 0 f ∧ O 16 f 3 = X 60 0 f ∧ 0 ≤ X 59 0 f ∧ X 59 0 f < f ∧ 0 ≤ X 60 0 f ∧ X 60 0 f < f ∧ O 16 (X 59 0 f).toNat 0 < O 16 f 0 ∧ O 16 (X 60 0 f).toNat 0 < O 16 f 0) ∨
    (X 58 0 f = 4 ∧ O 16 f 9 = 3 ∧ O 16 f 1 = 1 ∧ O 16 f 4 = -1 ∧ O 16 f 2 = X 59 0 f ∧ O 16 f 3 = X 60 0 f ∧ 0 ≤ X 59 0 f ∧ X 59 0 f < f ∧ 0 ≤ X 60 0 f ∧ X 60 0 f < f ∧ O 16 (X 59 0 f).toNat 0 < O 16 f 0 ∧ O 16 (X 60 0 f).toNat 0 < O 16 f 0) ∨
    (X 58 0 f = 5 ∧ O 16 f 9 = 3 ∧ O 16 f 1 = 2 ∧ O 16 f 4 = X 61 0 f ∧ O 16 f 2 = X 59 0 f ∧ O 16 f 3 = X 60 0 f ∧ 0 ≤ X 59 0 f ∧ X 59 0 f < f ∧ 0 ≤ X 60 0 f ∧ X 60 0 f < f ∧ 0 ≤ X 61 0 f ∧ X 61 0 f < f ∧ O 16 (X 59 0 f).toNat 0 < O 16 f 0 ∧ O 16 (X 60 0 f).toNat 0 < O 16 f 0 ∧ O 16 (X 61 0 f).toNat 0 < O 16 f 0) ∨
    (X 58 0 f = 6 ∧ O 16 f 9 = 4 ∧ O 16 f 1 = X 59 0 f ∧ 0 ≤ X 59 0 f ∧ X 59 0 f < f ∧ O 16 (X 59 0 f).toNat 0 < O 16 f 0) := by
  have h0 := wo_fk hO f hf
  rcases (show O 16 f 9 = 0 ∨ O 16 f 9 = 1 ∨ O 16 f 9 = 2 ∨ O 16 f 9 = 3 ∨ O 16 f 9 = 4 by omega) with e | e | e | e | e
  · obtain ⟨a1, a2, a3⟩ := rm_f0 hM f hf e
    obtain ⟨b1, b2, b3, b4, b5⟩ := wo_f0 hO f hf e
    exact Or.inl ⟨a1, e, a2.symm, a3.symm, by omega, by omega, by omega, by omega⟩
  · obtain ⟨a1, a2⟩ := rm_f1 hM f hf e
    obtain ⟨b1, b2, b3⟩ := wo_f1 hO f hf e
    exact Or.inr (Or.inl ⟨a1, e, a2.symm, by omega, by omega⟩)
  · obtain ⟨a1, a2⟩ := rm_f2 hM f hf e
    exact Or.inr (Or.inr (Or.inl ⟨a1, e, a2.symm⟩))
  · obtain ⟨a1, a2, a3, a4⟩ := rm_f3 hM f hf e
    obtain ⟨b1, b2, b3, b4, b5, b6, b7, b8, b9, b10, b11⟩ := wo_f3 hO f hf e
    rw [← a1] at b9
    rw [← a2] at b10
    by_cases c : O 16 f 4 = -1
    · rw [if_pos c] at a3
      rcases b7 with q | q
      · rw [if_neg (by omega)] at a3
        exact Or.inr (Or.inr (Or.inr (Or.inr (Or.inl ⟨a3, e, q, c, a1.symm, a2.symm, by omega, by omega, by omega, by omega, b9, b10⟩))))
      · rw [if_pos q] at a3
        exact Or.inr (Or.inr (Or.inr (Or.inl ⟨a3, e, q, c, a1.symm, a2.symm, by omega, by omega, by omega, by omega, b9, b10⟩)))
    · rw [if_neg c] at a3
      have a5 := a4 c
      have b12 := b11 c
      rw [← a5] at b12
      exact Or.inr (Or.inr (Or.inr (Or.inr (Or.inr (Or.inl ⟨a3, e, b8 c, a5.symm, a1.symm, a2.symm, by omega, by omega, by omega, by omega, by omega, by omega, b9, b10, b12⟩)))))
  · obtain ⟨a1, a2⟩ := rm_f4 hM f hf e
    obtain ⟨b1, b2, b3⟩ := wo_f4 hO f hf e
    rw [← a2] at b3
    exact Or.inr (Or.inr (Or.inr (Or.inr (Or.inr (Or.inr ⟨a1, e, a2.symm, by omega, by omega, b3⟩)))))
theorem fkX5 {O X : XM} (hO : WO O) (hM : RM O X) {f : Nat} (hf : (f : Int) < nF O) (h5 : X 58 0 f = 5) : O 16 f 9 = 3 ∧ O 16 f 1 = 2 ∧ O 16 f 4 = X 61 0 f ∧ O 16 f 2 = X 59 0 f ∧ O 16 f 3 = X 60 0 f ∧ 0 ≤ X 59 0 f ∧ X 59 0 f < f ∧ 0 ≤ X 60 0 f ∧ X 60 0 f < f ∧ 0 ≤ X 61 0 f ∧ X 61 0 f < f ∧ O 16 (X 59 0 f).toNat 0 < O 16 f 0 ∧ O 16 (X 60 0 f).toNat 0 < O 16 f 0 ∧ O 16 (X 61 0 f).toNat 0 < O 16 f 0 := by
  rcases fkX hO hM hf with w | w | w | w | w | w | w
  · exfalso; omega
  · exfalso; omega
  · exfalso; omega
  · exfalso; omega
  · exfalso; omega
  · exact w.2
  · exfalso; omega
theorem i_bestOf {g : Gt} {α : AL} {ν : Nat → Nat → Bool} {X : XM} {h : AH} (hT : TR g α ν X h) {O : XM} (hO : WO O) (hM : RM O X) {s : Nat} (hs : (s : Int) < nS O) {y : Int} (h0 : 0 ≤ y ∧ y < 20) : Pr g M_X12_bestOf 1 [.ref (α 40 0), .int (J (s : Int)), .int (J y)] h (some (.int (J (O 8 s y.toNat)))) := by
  have e : y = (y.toNat : Int) := by omega
  rw [show J y = J (y.toNat : Int) from congrArg J e]
  exact c_X12_bestOf hT hO hM hs (by omega)
theorem i_hasPassed {g : Gt} {α : AL} {ν : Nat → Nat → Bool} {X : XM} {h : AH} (hT : TR g α ν X h) {O : XM} (hO : WO O) (hM : RM O X) {s : Nat} (hs : (s : Int) < nS O) {y : Int} (h0 : 0 ≤ y ∧ y < 20) : Pr g M_X12_hasPassed 2 [.ref (α 40 0), .int (J (s : Int)), .int (J y)] h (some (.int (J (bi (psd O s y.toNat))))) := by
  have e : y = (y.toNat : Int) := by omega
  rw [show J y = J (y.toNat : Int) from congrArg J e]
  exact c_X12_hasPassed hT hO hM hs (by omega)
theorem i_has {g : Gt} {h : AH} {z : Int} {f : Nat → Int} (hz : bitsE z f) {y : Int} (h0 : 0 ≤ y ∧ y < 20) : Pr g M_X12_has 0 [.int (J z), .int (J y)] h (some (.int (J (bi (decide (f y.toNat ≠ 0)))))) := by
  have e : y = (y.toNat : Int) := by omega
  rw [show J y = J (y.toNat : Int) from congrArg J e]
  exact has_of hz (by omega) rfl
theorem i_hasT {g : Gt} {h : AH} {O X : XM} (hM : RM O X) {s : Nat} (hs : (s : Int) < nS O) {y : Int} (h0 : 0 ≤ y ∧ y < 20) : Pr g M_X12_has 0 [.int (J (X 52 0 s)), .int (J y)] h (some (.int (J (bi (tak O s y.toNat))))) := i_has (rm_tak hM s hs) h0
theorem i_creditsN {g : Gt} {α : AL} {ν : Nat → Nat → Bool} {X : XM} {h : AH} (hT : TR g α ν X h) {O : XM} (hO : WO O) (hM : RM O X) {z : Int} {nf : Nat → Int} (hz : bitsE z nf) : Pr g M_X12_creditsOf 1 [.ref (α 40 0), .int (J z)] h (some (.int (J (neF O nf)))) := c_X12_creditsOf hT hO hM hz
/-- what holdsNow says of the formulas below f, for who is w -/
def HN (g : Gt) (α : AL) (O : XM) (h : AH) (w : Int) (b : Nat → Int) (t : Nat → Bool) (e : Int) (f : Int) : Prop := ∀ y : Int, 0 ≤ y → y < f → ∀ d : Nat, 4 + 2 * (O 16 y.toNat 0).toNat ≤ d → Pr g M_X12_holdsNow d [.ref (α 40 0), .int (J y), .int (J w)] h (some (.int (J (bi (holF O b t e y.toNat)))))
set_option maxRecDepth 100000 in
set_option maxHeartbeats 4000000 in
theorem c_X12_times_s_open {g : Gt} {α : AL} {ν : Nat → Nat → Bool} {X : XM} {h : AH} (hT : TR g α ν X h) {O : XM} (hO : WO O) (hM : RM O X) {s : Nat} (hs : (s : Int) < nS O) {f : Nat} (hf : (f : Int) < nF O) (H : HN g α O h (s : Int) (O 8 s) (tak O s) (ernd O s) f) {d : Nat} (hd : 3 + 2 * (O 16 f 0).toNat ≤ d) (hk : X 58 0 f = 5) : Pr g M_X12_times d [.ref (α 40 0), .int (J (f : Int)), .int (J (s : Int))] h (some (.int (J (bi (holF O (O 8 s) (tak O s) (ernd O s) (O 16 f 2).toNat) + bi (holF O (O 8 s) (tak O s) (ernd O s) (O 16 f 3).toNat) + bi (holF O (O 8 s) (tak O s) (ernd O s) (O 16 f 4).toNat))))) := by
  refine pr_of rfl rfl (ls := [some (.ref (α 40 0)), some (.int (J (f : Int))), some (.int (J (s : Int)))]) rfl (Nat.le_of_ble_eq_true rfl) ?_
  show Ev g M_X12_times d 0 [some (.ref (α 40 0)), some (.int (J (f : Int))), some (.int (J (s : Int)))] [] h 0 0 (PQ (some (.int (J (bi (holF O (O 8 s) (tak O s) (ernd O s) (O 16 f 2).toNat) + bi (holF O (O 8 s) (tak O s) (ernd O s) (O 16 f 3).toNat) + bi (holF O (O 8 s) (tak O s) (ernd O s) (O 16 f 4).toNat))))) h)
  have q0 := rm_nC hM
  have q1 := wo_nC hO
  have q2 := rm_nS hM
  have q3 := wo_nS hO
  have qf := wo_nF hO
  have qd := wo_dep hO f hf
  have qd1 := wo_dp0 hO (X 59 0 f).toNat
  have qd2 := wo_dp0 hO (X 60 0 f).toNat
  have qd3 := wo_dp0 hO (X 61 0 f).toNat
  have qe : 0 ≤ ernd O s ∧ ernd O s ≤ 6 * ((nC O).toNat : Int) := crS_0 hO (psd O s) (nC O).toNat (by omega)
  obtain ⟨w2, w3, w4, w5, w6, w7, w8, w9, w10, w11, w12, w13, w14, w15⟩ := fkX5 hO hM hf hk
  refine ev_ald0 1 dX12_times_0 rfl ?_
  refine ev_ald0 2 dX12_times_1 rfl ?_
  refine ev_getfield 5 14 19 fl_X12_49_14 (tr40 hT) rfl dX12_times_2 rfl ?_
  refine ev_ild1 6 dX12_times_5 rfl ?_
  refine tv_iald 7 (tr59 hT) (f) (by omega) (by omega) (by omega) dX12_times_6 rfl ?_
  refine ev_ild2 8 dX12_times_7 rfl ?_
  refine tc_V2 11 14 dX12_times_8 lkv_X12_130 (tr40 hT) rfl rfl (by first | decide | omega) (Nat.le_of_ble_eq_true rfl) (H _ (by omega) (by omega) _ (Nat.le_refl _)) ?_
  refine tb_if_eq 18 14 dX12_times_11 (by decide) rfl (fun c11 => ?_) (fun c11 => ?_)
  · skip
    refine tj_iconst 19 dX12_times_18 rfl ?_
    refine ev_ald0 20 dX12_times_19 rfl ?_
    refine ev_ald0 21 dX12_times_20 rfl ?_
    refine ev_getfield 24 14 20 fl_X12_52_14 (tr40 hT) rfl dX12_times_21 rfl ?_
    refine ev_ild1 25 dX12_times_24 rfl ?_
    refine tv_iald 26 (tr60 hT) (f) (by omega) (by omega) (by omega) dX12_times_25 rfl ?_
    refine ev_ild2 27 dX12_times_26 rfl ?_
    refine tc_V2 30 14 dX12_times_27 lkv_X12_130 (tr40 hT) rfl rfl (by first | decide | omega) (Nat.le_of_ble_eq_true rfl) (H _ (by omega) (by omega) _ (Nat.le_refl _)) ?_
    refine tb_if_eq 37 33 dX12_times_30 (by decide) rfl (fun c30 => ?_) (fun c30 => ?_)
    · skip
      refine tj_iconst 38 dX12_times_37 rfl ?_
      refine tj_iadd 39 dX12_times_38 rfl ?_
      refine ev_ald0 40 dX12_times_39 rfl ?_
      refine ev_ald0 41 dX12_times_40 rfl ?_
      refine ev_getfield 44 14 21 fl_X12_55_14 (tr40 hT) rfl dX12_times_41 rfl ?_
      refine ev_ild1 45 dX12_times_44 rfl ?_
      refine tv_iald 46 (tr61 hT) (f) (by omega) (by omega) (by omega) dX12_times_45 rfl ?_
      refine ev_ild2 47 dX12_times_46 rfl ?_
      refine tc_V2 50 14 dX12_times_47 lkv_X12_130 (tr40 hT) rfl rfl (by first | decide | omega) (Nat.le_of_ble_eq_true rfl) (H _ (by omega) (by omega) _ (Nat.le_refl _)) ?_
      refine tb_if_eq 57 53 dX12_times_50 (by decide) rfl (fun c50 => ?_) (fun c50 => ?_)
      · skip
        refine tj_iconst 58 dX12_times_57 rfl ?_
        refine tj_iadd 59 dX12_times_58 rfl ?_
        exact ev_ireturn (pq_i (by first | rfl | omega | exact bi_dt (by omega) | exact bi_df (by omega) | (rw [w4, w5, w6]; simp [bi, *]))) rfl dX12_times_59
      · skip
        refine tj_iconst 54 dX12_times_53 rfl ?_
        refine ev_goto 58 dX12_times_54 (by decide) ?_
        refine tj_iadd 59 dX12_times_58 rfl ?_
        exact ev_ireturn (pq_i (by first | rfl | omega | exact bi_dt (by omega) | exact bi_df (by omega) | (rw [w4, w5, w6]; simp [bi, *]))) rfl dX12_times_59
    · skip
      refine tj_iconst 34 dX12_times_33 rfl ?_
      refine ev_goto 38 dX12_times_34 (by decide) ?_
      refine tj_iadd 39 dX12_times_38 rfl ?_
      refine ev_ald0 40 dX12_times_39 rfl ?_
      refine ev_ald0 41 dX12_times_40 rfl ?_
      refine ev_getfield 44 14 21 fl_X12_55_14 (tr40 hT) rfl dX12_times_41 rfl ?_
      refine ev_ild1 45 dX12_times_44 rfl ?_
      refine tv_iald 46 (tr61 hT) (f) (by omega) (by omega) (by omega) dX12_times_45 rfl ?_
      refine ev_ild2 47 dX12_times_46 rfl ?_
      refine tc_V2 50 14 dX12_times_47 lkv_X12_130 (tr40 hT) rfl rfl (by first | decide | omega) (Nat.le_of_ble_eq_true rfl) (H _ (by omega) (by omega) _ (Nat.le_refl _)) ?_
      refine tb_if_eq 57 53 dX12_times_50 (by decide) rfl (fun c50 => ?_) (fun c50 => ?_)
      · skip
        refine tj_iconst 58 dX12_times_57 rfl ?_
        refine tj_iadd 59 dX12_times_58 rfl ?_
        exact ev_ireturn (pq_i (by first | rfl | omega | exact bi_dt (by omega) | exact bi_df (by omega) | (rw [w4, w5, w6]; simp [bi, *]))) rfl dX12_times_59
      · skip
        refine tj_iconst 54 dX12_times_53 rfl ?_
        refine ev_goto 58 dX12_times_54 (by decide) ?_
        refine tj_iadd 59 dX12_times_58 rfl ?_
        exact ev_ireturn (pq_i (by first | rfl | omega | exact bi_dt (by omega) | exact bi_df (by omega) | (rw [w4, w5, w6]; simp [bi, *]))) rfl dX12_times_59
  · skip
    refine tj_iconst 15 dX12_times_14 rfl ?_
    refine ev_goto 19 dX12_times_15 (by decide) ?_
    refine ev_ald0 20 dX12_times_19 rfl ?_
    refine ev_ald0 21 dX12_times_20 rfl ?_
    refine ev_getfield 24 14 20 fl_X12_52_14 (tr40 hT) rfl dX12_times_21 rfl ?_
    refine ev_ild1 25 dX12_times_24 rfl ?_
    refine tv_iald 26 (tr60 hT) (f) (by omega) (by omega) (by omega) dX12_times_25 rfl ?_
    refine ev_ild2 27 dX12_times_26 rfl ?_
    refine tc_V2 30 14 dX12_times_27 lkv_X12_130 (tr40 hT) rfl rfl (by first | decide | omega) (Nat.le_of_ble_eq_true rfl) (H _ (by omega) (by omega) _ (Nat.le_refl _)) ?_
    refine tb_if_eq 37 33 dX12_times_30 (by decide) rfl (fun c30 => ?_) (fun c30 => ?_)
    · skip
      refine tj_iconst 38 dX12_times_37 rfl ?_
      refine tj_iadd 39 dX12_times_38 rfl ?_
      refine ev_ald0 40 dX12_times_39 rfl ?_
      refine ev_ald0 41 dX12_times_40 rfl ?_
      refine ev_getfield 44 14 21 fl_X12_55_14 (tr40 hT) rfl dX12_times_41 rfl ?_
      refine ev_ild1 45 dX12_times_44 rfl ?_
      refine tv_iald 46 (tr61 hT) (f) (by omega) (by omega) (by omega) dX12_times_45 rfl ?_
      refine ev_ild2 47 dX12_times_46 rfl ?_
      refine tc_V2 50 14 dX12_times_47 lkv_X12_130 (tr40 hT) rfl rfl (by first | decide | omega) (Nat.le_of_ble_eq_true rfl) (H _ (by omega) (by omega) _ (Nat.le_refl _)) ?_
      refine tb_if_eq 57 53 dX12_times_50 (by decide) rfl (fun c50 => ?_) (fun c50 => ?_)
      · skip
        refine tj_iconst 58 dX12_times_57 rfl ?_
        refine tj_iadd 59 dX12_times_58 rfl ?_
        exact ev_ireturn (pq_i (by first | rfl | omega | exact bi_dt (by omega) | exact bi_df (by omega) | (rw [w4, w5, w6]; simp [bi, *]))) rfl dX12_times_59
      · skip
        refine tj_iconst 54 dX12_times_53 rfl ?_
        refine ev_goto 58 dX12_times_54 (by decide) ?_
        refine tj_iadd 59 dX12_times_58 rfl ?_
        exact ev_ireturn (pq_i (by first | rfl | omega | exact bi_dt (by omega) | exact bi_df (by omega) | (rw [w4, w5, w6]; simp [bi, *]))) rfl dX12_times_59
    · skip
      refine tj_iconst 34 dX12_times_33 rfl ?_
      refine ev_goto 38 dX12_times_34 (by decide) ?_
      refine tj_iadd 39 dX12_times_38 rfl ?_
      refine ev_ald0 40 dX12_times_39 rfl ?_
      refine ev_ald0 41 dX12_times_40 rfl ?_
      refine ev_getfield 44 14 21 fl_X12_55_14 (tr40 hT) rfl dX12_times_41 rfl ?_
      refine ev_ild1 45 dX12_times_44 rfl ?_
      refine tv_iald 46 (tr61 hT) (f) (by omega) (by omega) (by omega) dX12_times_45 rfl ?_
      refine ev_ild2 47 dX12_times_46 rfl ?_
      refine tc_V2 50 14 dX12_times_47 lkv_X12_130 (tr40 hT) rfl rfl (by first | decide | omega) (Nat.le_of_ble_eq_true rfl) (H _ (by omega) (by omega) _ (Nat.le_refl _)) ?_
      refine tb_if_eq 57 53 dX12_times_50 (by decide) rfl (fun c50 => ?_) (fun c50 => ?_)
      · skip
        refine tj_iconst 58 dX12_times_57 rfl ?_
        refine tj_iadd 59 dX12_times_58 rfl ?_
        exact ev_ireturn (pq_i (by first | rfl | omega | exact bi_dt (by omega) | exact bi_df (by omega) | (rw [w4, w5, w6]; simp [bi, *]))) rfl dX12_times_59
      · skip
        refine tj_iconst 54 dX12_times_53 rfl ?_
        refine ev_goto 58 dX12_times_54 (by decide) ?_
        refine tj_iadd 59 dX12_times_58 rfl ?_
        exact ev_ireturn (pq_i (by first | rfl | omega | exact bi_dt (by omega) | exact bi_df (by omega) | (rw [w4, w5, w6]; simp [bi, *]))) rfl dX12_times_59
set_option maxRecDepth 100000 in
set_option maxHeartbeats 4000000 in
theorem c_X12_holdsNow_s_open {g : Gt} {α : AL} {ν : Nat → Nat → Bool} {X : XM} {h : AH} (hT : TR g α ν X h) {O : XM} (hO : WO O) (hM : RM O X) {s : Nat} (hs : (s : Int) < nS O) {f : Nat} (hf : (f : Int) < nF O) (H : HN g α O h (s : Int) (O 8 s) (tak O s) (ernd O s) f) {d : Nat} (hd : 4 + 2 * (O 16 f 0).toNat ≤ d) : Pr g M_X12_holdsNow d [.ref (α 40 0), .int (J (f : Int)), .int (J (s : Int))] h (some (.int (J (bi (holF O (O 8 s) (tak O s) (ernd O s) f))))) := by
  refine pr_of rfl rfl (ls := [some (.ref (α 40 0)), some (.int (J (f : Int))), some (.int (J (s : Int))), none]) rfl (Nat.le_of_ble_eq_true rfl) ?_
  show Ev g M_X12_holdsNow d 0 [some (.ref (α 40 0)), some (.int (J (f : Int))), some (.int (J (s : Int))), none] [] h 0 0 (PQ (some (.int (J (bi (holF O (O 8 s) (tak O s) (ernd O s) f))))) h)
  have q0 := rm_nC hM
  have q1 := wo_nC hO
  have q2 := rm_nS hM
  have q3 := wo_nS hO
  have qf := wo_nF hO
  have qd := wo_dep hO f hf
  have qd1 := wo_dp0 hO (X 59 0 f).toNat
  have qd2 := wo_dp0 hO (X 60 0 f).toNat
  have qd3 := wo_dp0 hO (X 61 0 f).toNat
  have qe : 0 ≤ ernd O s ∧ ernd O s ≤ 6 * ((nC O).toNat : Int) := crS_0 hO (psd O s) (nC O).toNat (by omega)
  have z1 := bi_01 (holF O (O 8 s) (tak O s) (ernd O s) (O 16 f 2).toNat)
  have z2 := bi_01 (holF O (O 8 s) (tak O s) (ernd O s) (O 16 f 3).toNat)
  have z3 := bi_01 (holF O (O 8 s) (tak O s) (ernd O s) (O 16 f 4).toNat)
  refine ev_ild2 1 dX12_holdsNow_0 rfl ?_
  refine tj_iconst 2 dX12_holdsNow_1 rfl ?_
  refine tj_icmp_ne 9 5 dX12_holdsNow_2 (by decide) rfl (by first | exact TR.rng hT _ _ _ | exact R31_of _ | exact bi_R _ | (constructor <;> omega)) (by first | exact TR.rng hT _ _ _ | exact R31_of _ | exact bi_R _ | (constructor <;> omega)) (fun c2 => ?_) (fun c2 => ?_)
  · skip
    refine tj_iconst 10 dX12_holdsNow_9 rfl ?_
    refine ev_ist3 11 dX12_holdsNow_10 rfl (by decide) rfl ?_
    refine ev_ald0 12 dX12_holdsNow_11 rfl ?_
    refine ev_getfield 15 14 18 fl_X12_46_14 (tr40 hT) rfl dX12_holdsNow_12 rfl ?_
    refine ev_ild1 16 dX12_holdsNow_15 rfl ?_
    refine tv_iald 17 (tr58 hT) (f) (by omega) (by omega) (by omega) dX12_holdsNow_16 rfl ?_
    rcases (fkX hO hM hf) with ⟨c17, w17⟩ | ⟨c17, w17⟩ | ⟨c17, w17⟩ | ⟨c17, w17⟩ | ⟨c17, w17⟩ | ⟨c17, w17⟩ | ⟨c17, w17⟩
    · skip
      have qb := wo_bst hO s (X 59 0 f).toNat hs (by omega)
      refine ev_tswIn 0 56 dX12_holdsNow_17 (by omega) rfl (by decide) (by first | exact TR.rng hT _ _ _ | exact R31_of _ | exact bi_R _ | (constructor <;> omega)) (by decide) ?_
      refine ev_ild3 57 dX12_holdsNow_56 rfl ?_
      refine tj_if_eq 76 60 dX12_holdsNow_57 (by decide) rfl (by first | exact TR.rng hT _ _ _ | exact R31_of _ | exact bi_R _ | (constructor <;> omega)) (fun c57 => ?_) (fun c57 => ?_)
      · skip
        refine ev_ald0 77 dX12_holdsNow_76 rfl ?_
        refine ev_ild2 78 dX12_holdsNow_77 rfl ?_
        refine ev_ald0 79 dX12_holdsNow_78 rfl ?_
        refine ev_getfield 82 14 19 fl_X12_49_14 (tr40 hT) rfl dX12_holdsNow_79 rfl ?_
        refine ev_ild1 83 dX12_holdsNow_82 rfl ?_
        refine tv_iald 84 (tr59 hT) (f) (by omega) (by omega) (by omega) dX12_holdsNow_83 rfl ?_
        refine tc_V2 87 14 dX12_holdsNow_84 lkv_X12_114 (tr40 hT) rfl rfl (by first | decide | omega) (Nat.le_of_ble_eq_true rfl) (i_bestOf hT hO hM hs (by omega)) ?_
        refine ev_ald0 88 dX12_holdsNow_87 rfl ?_
        refine ev_getfield 91 14 20 fl_X12_52_14 (tr40 hT) rfl dX12_holdsNow_88 rfl ?_
        refine ev_ild1 92 dX12_holdsNow_91 rfl ?_
        refine tv_iald 93 (tr60 hT) (f) (by omega) (by omega) (by omega) dX12_holdsNow_92 rfl ?_
        refine tj_icmp_lt 115 96 dX12_holdsNow_93 (by decide) rfl (by first | exact TR.rng hT _ _ _ | exact R31_of _ | exact bi_R _ | (constructor <;> omega)) (by first | exact TR.rng hT _ _ _ | exact R31_of _ | exact bi_R _ | (constructor <;> omega)) (fun c93 => ?_) (fun c93 => ?_)
        · skip
          refine tj_iconst 116 dX12_holdsNow_115 rfl ?_
          exact tz_ret (by first | rfl | omega | exact bi_dt (by omega) | exact bi_df (by omega) | (rw [holF_0 w17.1, w17.2.1, w17.2.2.1]; (first | (exact bi_dt (by omega)) | (exact bi_df (by omega)) | (by_cases cz : nf (X 59 0 f).toNat = 0 <;> simp [bi, nbF, cz] <;> omega)))) rfl dX12_holdsNow_116
        · skip
          refine ev_ald0 97 dX12_holdsNow_96 rfl ?_
          refine ev_ild2 98 dX12_holdsNow_97 rfl ?_
          refine ev_ald0 99 dX12_holdsNow_98 rfl ?_
          refine ev_getfield 102 14 19 fl_X12_49_14 (tr40 hT) rfl dX12_holdsNow_99 rfl ?_
          refine ev_ild1 103 dX12_holdsNow_102 rfl ?_
          refine tv_iald 104 (tr59 hT) (f) (by omega) (by omega) (by omega) dX12_holdsNow_103 rfl ?_
          refine tc_V2 107 14 dX12_holdsNow_104 lkv_X12_114 (tr40 hT) rfl rfl (by first | decide | omega) (Nat.le_of_ble_eq_true rfl) (i_bestOf hT hO hM hs (by omega)) ?_
          refine tj_iconst 108 dX12_holdsNow_107 rfl ?_
          refine tj_icmp_eq 115 111 dX12_holdsNow_108 (by decide) rfl (by first | exact TR.rng hT _ _ _ | exact R31_of _ | exact bi_R _ | (constructor <;> omega)) (by first | exact TR.rng hT _ _ _ | exact R31_of _ | exact bi_R _ | (constructor <;> omega)) (fun c108 => ?_) (fun c108 => ?_)
          · skip
            refine tj_iconst 116 dX12_holdsNow_115 rfl ?_
            exact tz_ret (by first | rfl | omega | exact bi_dt (by omega) | exact bi_df (by omega) | (rw [holF_0 w17.1, w17.2.1, w17.2.2.1]; (first | (exact bi_dt (by omega)) | (exact bi_df (by omega)) | (by_cases cz : nf (X 59 0 f).toNat = 0 <;> simp [bi, nbF, cz] <;> omega)))) rfl dX12_holdsNow_116
          · skip
            refine tj_iconst 112 dX12_holdsNow_111 rfl ?_
            refine ev_goto 116 dX12_holdsNow_112 (by decide) ?_
            exact tz_ret (by first | rfl | omega | exact bi_dt (by omega) | exact bi_df (by omega) | (rw [holF_0 w17.1, w17.2.1, w17.2.2.1]; (first | (exact bi_dt (by omega)) | (exact bi_df (by omega)) | (by_cases cz : nf (X 59 0 f).toNat = 0 <;> simp [bi, nbF, cz] <;> omega)))) rfl dX12_holdsNow_116
      · exact False.elim (by omega)
    · skip
      refine ev_tswIn 1 117 dX12_holdsNow_17 (by omega) rfl (by decide) (by first | exact TR.rng hT _ _ _ | exact R31_of _ | exact bi_R _ | (constructor <;> omega)) (by decide) ?_
      refine ev_ild3 118 dX12_holdsNow_117 rfl ?_
      refine tj_if_eq 137 121 dX12_holdsNow_118 (by decide) rfl (by first | exact TR.rng hT _ _ _ | exact R31_of _ | exact bi_R _ | (constructor <;> omega)) (fun c118 => ?_) (fun c118 => ?_)
      · skip
        refine ev_ald0 138 dX12_holdsNow_137 rfl ?_
        refine ev_getfield 141 14 12 fl_X12_31_14 (tr40 hT) rfl dX12_holdsNow_138 rfl ?_
        refine ev_ild2 142 dX12_holdsNow_141 rfl ?_
        refine tv_iald 143 (tr52 hT) (s) (by omega) (by omega) (by omega) dX12_holdsNow_142 rfl ?_
        refine ev_ald0 144 dX12_holdsNow_143 rfl ?_
        refine ev_getfield 147 14 19 fl_X12_49_14 (tr40 hT) rfl dX12_holdsNow_144 rfl ?_
        refine ev_ild1 148 dX12_holdsNow_147 rfl ?_
        refine tv_iald 149 (tr59 hT) (f) (by omega) (by omega) (by omega) dX12_holdsNow_148 rfl ?_
        refine tc_S2 152 dX12_holdsNow_149 lks_X12_106 rfl (by first | decide | omega) (Nat.le_of_ble_eq_true rfl) (i_hasT hM hs (by omega)) ?_
        refine tb_if_ne 169 155 dX12_holdsNow_152 (by decide) rfl (fun c152 => ?_) (fun c152 => ?_)
        · skip
          refine tj_iconst 170 dX12_holdsNow_169 rfl ?_
          refine ev_goto 174 dX12_holdsNow_170 (by decide) ?_
          exact tz_ret (by first | rfl | omega | exact bi_dt (by omega) | exact bi_df (by omega) | (rw [holF_1 w17.1, w17.2.1]; (first | (show _ = bi (tak O s (X 59 0 f).toNat || psd O s (X 59 0 f).toNat); simp [bi, *]; done) | (by_cases cz : nf (X 59 0 f).toNat = 0 <;> simp [bi, nbF, ntF, cz])))) rfl dX12_holdsNow_174
        · skip
          refine ev_ald0 156 dX12_holdsNow_155 rfl ?_
          refine ev_ild2 157 dX12_holdsNow_156 rfl ?_
          refine ev_ald0 158 dX12_holdsNow_157 rfl ?_
          refine ev_getfield 161 14 19 fl_X12_49_14 (tr40 hT) rfl dX12_holdsNow_158 rfl ?_
          refine ev_ild1 162 dX12_holdsNow_161 rfl ?_
          refine tv_iald 163 (tr59 hT) (f) (by omega) (by omega) (by omega) dX12_holdsNow_162 rfl ?_
          refine tc_V2 166 14 dX12_holdsNow_163 lkv_X12_117 (tr40 hT) rfl rfl (by first | decide | omega) (Nat.le_of_ble_eq_true rfl) (i_hasPassed hT hO hM hs (by omega)) ?_
          refine tb_if_eq 173 169 dX12_holdsNow_166 (by decide) rfl (fun c166 => ?_) (fun c166 => ?_)
          · skip
            refine tj_iconst 174 dX12_holdsNow_173 rfl ?_
            exact tz_ret (by first | rfl | omega | exact bi_dt (by omega) | exact bi_df (by omega) | (rw [holF_1 w17.1, w17.2.1]; (first | (show _ = bi (tak O s (X 59 0 f).toNat || psd O s (X 59 0 f).toNat); simp [bi, *]; done) | (by_cases cz : nf (X 59 0 f).toNat = 0 <;> simp [bi, nbF, ntF, cz])))) rfl dX12_holdsNow_174
          · skip
            refine tj_iconst 170 dX12_holdsNow_169 rfl ?_
            refine ev_goto 174 dX12_holdsNow_170 (by decide) ?_
            exact tz_ret (by first | rfl | omega | exact bi_dt (by omega) | exact bi_df (by omega) | (rw [holF_1 w17.1, w17.2.1]; (first | (show _ = bi (tak O s (X 59 0 f).toNat || psd O s (X 59 0 f).toNat); simp [bi, *]; done) | (by_cases cz : nf (X 59 0 f).toNat = 0 <;> simp [bi, nbF, ntF, cz])))) rfl dX12_holdsNow_174
      · exact False.elim (by omega)
    · skip
      refine ev_tswIn 2 175 dX12_holdsNow_17 (by omega) rfl (by decide) (by first | exact TR.rng hT _ _ _ | exact R31_of _ | exact bi_R _ | (constructor <;> omega)) (by decide) ?_
      refine ev_ild3 176 dX12_holdsNow_175 rfl ?_
      refine tj_if_eq 190 179 dX12_holdsNow_176 (by decide) rfl (by first | exact TR.rng hT _ _ _ | exact R31_of _ | exact bi_R _ | (constructor <;> omega)) (fun c176 => ?_) (fun c176 => ?_)
      · skip
        refine ev_ald0 191 dX12_holdsNow_190 rfl ?_
        refine ev_ild2 192 dX12_holdsNow_191 rfl ?_
        refine tc_V1 195 14 dX12_holdsNow_192 lkv_X12_127 (tr40 hT) rfl rfl (by first | decide | omega) (Nat.le_of_ble_eq_true rfl) (c_X12_earnedOf hT hO hM (by omega)) ?_
        refine ev_ald0 196 dX12_holdsNow_195 rfl ?_
        refine ev_getfield 199 14 19 fl_X12_49_14 (tr40 hT) rfl dX12_holdsNow_196 rfl ?_
        refine ev_ild1 200 dX12_holdsNow_199 rfl ?_
        refine tv_iald 201 (tr59 hT) (f) (by omega) (by omega) (by omega) dX12_holdsNow_200 rfl ?_
        refine tj_icmp_lt 208 204 dX12_holdsNow_201 (by decide) rfl (by first | exact TR.rng hT _ _ _ | exact R31_of _ | exact bi_R _ | (constructor <;> omega)) (by first | exact TR.rng hT _ _ _ | exact R31_of _ | exact bi_R _ | (constructor <;> omega)) (fun c201 => ?_) (fun c201 => ?_)
        · skip
          refine tj_iconst 209 dX12_holdsNow_208 rfl ?_
          exact tz_ret (by first | rfl | omega | exact bi_dt (by omega) | exact bi_df (by omega) | (rw [holF_2 w17.1, w17.2]; simp [bi]; omega)) rfl dX12_holdsNow_209
        · skip
          refine tj_iconst 205 dX12_holdsNow_204 rfl ?_
          refine ev_goto 209 dX12_holdsNow_205 (by decide) ?_
          exact tz_ret (by first | rfl | omega | exact bi_dt (by omega) | exact bi_df (by omega) | (rw [holF_2 w17.1, w17.2]; simp [bi]; omega)) rfl dX12_holdsNow_209
      · exact False.elim (by omega)
    · skip
      refine ev_tswIn 3 210 dX12_holdsNow_17 (by omega) rfl (by decide) (by first | exact TR.rng hT _ _ _ | exact R31_of _ | exact bi_R _ | (constructor <;> omega)) (by decide) ?_
      refine ev_ald0 211 dX12_holdsNow_210 rfl ?_
      refine ev_ald0 212 dX12_holdsNow_211 rfl ?_
      refine ev_getfield 215 14 19 fl_X12_49_14 (tr40 hT) rfl dX12_holdsNow_212 rfl ?_
      refine ev_ild1 216 dX12_holdsNow_215 rfl ?_
      refine tv_iald 217 (tr59 hT) (f) (by omega) (by omega) (by omega) dX12_holdsNow_216 rfl ?_
      refine ev_ild2 218 dX12_holdsNow_217 rfl ?_
      refine tc_V2 221 14 dX12_holdsNow_218 lkv_X12_130 (tr40 hT) rfl rfl (by first | decide | omega) (Nat.le_of_ble_eq_true rfl) (H _ (by omega) (by omega) _ (Nat.le_refl _)) ?_
      refine tb_if_eq 242 224 dX12_holdsNow_221 (by decide) rfl (fun c221 => ?_) (fun c221 => ?_)
      · skip
        refine tj_iconst 243 dX12_holdsNow_242 rfl ?_
        exact tz_ret (by first | rfl | omega | exact bi_dt (by omega) | exact bi_df (by omega) | (rw [holF_3 w17.1 (by omega) (by omega) (by omega), w17.2.1, w17.2.2.1, w17.2.2.2.1, w17.2.2.2.2.1]; simp [bi, *] <;> split <;> omega)) rfl dX12_holdsNow_243
      · skip
        refine ev_ald0 225 dX12_holdsNow_224 rfl ?_
        refine ev_ald0 226 dX12_holdsNow_225 rfl ?_
        refine ev_getfield 229 14 20 fl_X12_52_14 (tr40 hT) rfl dX12_holdsNow_226 rfl ?_
        refine ev_ild1 230 dX12_holdsNow_229 rfl ?_
        refine tv_iald 231 (tr60 hT) (f) (by omega) (by omega) (by omega) dX12_holdsNow_230 rfl ?_
        refine ev_ild2 232 dX12_holdsNow_231 rfl ?_
        refine tc_V2 235 14 dX12_holdsNow_232 lkv_X12_130 (tr40 hT) rfl rfl (by first | decide | omega) (Nat.le_of_ble_eq_true rfl) (H _ (by omega) (by omega) _ (Nat.le_refl _)) ?_
        refine tb_if_eq 242 238 dX12_holdsNow_235 (by decide) rfl (fun c235 => ?_) (fun c235 => ?_)
        · skip
          refine tj_iconst 243 dX12_holdsNow_242 rfl ?_
          exact tz_ret (by first | rfl | omega | exact bi_dt (by omega) | exact bi_df (by omega) | (rw [holF_3 w17.1 (by omega) (by omega) (by omega), w17.2.1, w17.2.2.1, w17.2.2.2.1, w17.2.2.2.2.1]; simp [bi, *] <;> split <;> omega)) rfl dX12_holdsNow_243
        · skip
          refine tj_iconst 239 dX12_holdsNow_238 rfl ?_
          refine ev_goto 243 dX12_holdsNow_239 (by decide) ?_
          exact tz_ret (by first | rfl | omega | exact bi_dt (by omega) | exact bi_df (by omega) | (rw [holF_3 w17.1 (by omega) (by omega) (by omega), w17.2.1, w17.2.2.1, w17.2.2.2.1, w17.2.2.2.2.1]; simp [bi, *] <;> split <;> omega)) rfl dX12_holdsNow_243
    · skip
      refine ev_tswIn 4 244 dX12_holdsNow_17 (by omega) rfl (by decide) (by first | exact TR.rng hT _ _ _ | exact R31_of _ | exact bi_R _ | (constructor <;> omega)) (by decide) ?_
      refine ev_ald0 245 dX12_holdsNow_244 rfl ?_
      refine ev_ald0 246 dX12_holdsNow_245 rfl ?_
      refine ev_getfield 249 14 19 fl_X12_49_14 (tr40 hT) rfl dX12_holdsNow_246 rfl ?_
      refine ev_ild1 250 dX12_holdsNow_249 rfl ?_
      refine tv_iald 251 (tr59 hT) (f) (by omega) (by omega) (by omega) dX12_holdsNow_250 rfl ?_
      refine ev_ild2 252 dX12_holdsNow_251 rfl ?_
      refine tc_V2 255 14 dX12_holdsNow_252 lkv_X12_130 (tr40 hT) rfl rfl (by first | decide | omega) (Nat.le_of_ble_eq_true rfl) (H _ (by omega) (by omega) _ (Nat.le_refl _)) ?_
      refine tb_if_ne 272 258 dX12_holdsNow_255 (by decide) rfl (fun c255 => ?_) (fun c255 => ?_)
      · skip
        refine tj_iconst 273 dX12_holdsNow_272 rfl ?_
        refine ev_goto 277 dX12_holdsNow_273 (by decide) ?_
        exact tz_ret (by first | rfl | omega | exact bi_dt (by omega) | exact bi_df (by omega) | (rw [holF_3 w17.1 (by omega) (by omega) (by omega), w17.2.1, w17.2.2.1, w17.2.2.2.1, w17.2.2.2.2.1]; simp [bi, *] <;> split <;> omega)) rfl dX12_holdsNow_277
      · skip
        refine ev_ald0 259 dX12_holdsNow_258 rfl ?_
        refine ev_ald0 260 dX12_holdsNow_259 rfl ?_
        refine ev_getfield 263 14 20 fl_X12_52_14 (tr40 hT) rfl dX12_holdsNow_260 rfl ?_
        refine ev_ild1 264 dX12_holdsNow_263 rfl ?_
        refine tv_iald 265 (tr60 hT) (f) (by omega) (by omega) (by omega) dX12_holdsNow_264 rfl ?_
        refine ev_ild2 266 dX12_holdsNow_265 rfl ?_
        refine tc_V2 269 14 dX12_holdsNow_266 lkv_X12_130 (tr40 hT) rfl rfl (by first | decide | omega) (Nat.le_of_ble_eq_true rfl) (H _ (by omega) (by omega) _ (Nat.le_refl _)) ?_
        refine tb_if_eq 276 272 dX12_holdsNow_269 (by decide) rfl (fun c269 => ?_) (fun c269 => ?_)
        · skip
          refine tj_iconst 277 dX12_holdsNow_276 rfl ?_
          exact tz_ret (by first | rfl | omega | exact bi_dt (by omega) | exact bi_df (by omega) | (rw [holF_3 w17.1 (by omega) (by omega) (by omega), w17.2.1, w17.2.2.1, w17.2.2.2.1, w17.2.2.2.2.1]; simp [bi, *] <;> split <;> omega)) rfl dX12_holdsNow_277
        · skip
          refine tj_iconst 273 dX12_holdsNow_272 rfl ?_
          refine ev_goto 277 dX12_holdsNow_273 (by decide) ?_
          exact tz_ret (by first | rfl | omega | exact bi_dt (by omega) | exact bi_df (by omega) | (rw [holF_3 w17.1 (by omega) (by omega) (by omega), w17.2.1, w17.2.2.1, w17.2.2.2.1, w17.2.2.2.2.1]; simp [bi, *] <;> split <;> omega)) rfl dX12_holdsNow_277
    · skip
      refine ev_tswIn 5 278 dX12_holdsNow_17 (by omega) rfl (by decide) (by first | exact TR.rng hT _ _ _ | exact R31_of _ | exact bi_R _ | (constructor <;> omega)) (by decide) ?_
      refine ev_ald0 279 dX12_holdsNow_278 rfl ?_
      refine ev_ild1 280 dX12_holdsNow_279 rfl ?_
      refine ev_ild2 281 dX12_holdsNow_280 rfl ?_
      refine tc_V2 284 14 dX12_holdsNow_281 lkv_X12_133 (tr40 hT) rfl rfl (by first | decide | omega) (Nat.le_of_ble_eq_true rfl) (c_X12_times_s_open hT hO hM hs hf H (Nat.le_refl _) (by omega)) ?_
      refine tj_iconst 285 dX12_holdsNow_284 rfl ?_
      refine tj_icmp_lt 292 288 dX12_holdsNow_285 (by decide) rfl (by first | exact TR.rng hT _ _ _ | exact R31_of _ | exact bi_R _ | (constructor <;> omega)) (by first | exact TR.rng hT _ _ _ | exact R31_of _ | exact bi_R _ | (constructor <;> omega)) (fun c285 => ?_) (fun c285 => ?_)
      · skip
        refine tj_iconst 293 dX12_holdsNow_292 rfl ?_
        exact tz_ret (by first | rfl | omega | exact bi_dt (by omega) | exact bi_df (by omega) | (rw [holF_3 w17.1 (by omega) (by omega) (by omega), w17.2.1, decide_eq_true (show O 16 f 4 ≠ -1 by omega), Bool.true_and]; (first | exact bi_dt (by omega) | exact bi_df (by omega)))) rfl dX12_holdsNow_293
      · skip
        refine tj_iconst 289 dX12_holdsNow_288 rfl ?_
        refine ev_goto 293 dX12_holdsNow_289 (by decide) ?_
        exact tz_ret (by first | rfl | omega | exact bi_dt (by omega) | exact bi_df (by omega) | (rw [holF_3 w17.1 (by omega) (by omega) (by omega), w17.2.1, decide_eq_true (show O 16 f 4 ≠ -1 by omega), Bool.true_and]; (first | exact bi_dt (by omega) | exact bi_df (by omega)))) rfl dX12_holdsNow_293
    · skip
      refine ev_tswOut 294 dX12_holdsNow_17 (by first | exact TR.rng hT _ _ _ | exact R31_of _ | exact bi_R _ | (constructor <;> omega)) (by omega) (by decide) ?_
      refine ev_ald0 295 dX12_holdsNow_294 rfl ?_
      refine ev_ald0 296 dX12_holdsNow_295 rfl ?_
      refine ev_getfield 299 14 19 fl_X12_49_14 (tr40 hT) rfl dX12_holdsNow_296 rfl ?_
      refine ev_ild1 300 dX12_holdsNow_299 rfl ?_
      refine tv_iald 301 (tr59 hT) (f) (by omega) (by omega) (by omega) dX12_holdsNow_300 rfl ?_
      refine ev_ild2 302 dX12_holdsNow_301 rfl ?_
      refine tc_V2 305 14 dX12_holdsNow_302 lkv_X12_130 (tr40 hT) rfl rfl (by first | decide | omega) (Nat.le_of_ble_eq_true rfl) (H _ (by omega) (by omega) _ (Nat.le_refl _)) ?_
      refine tb_if_ne 312 308 dX12_holdsNow_305 (by decide) rfl (fun c305 => ?_) (fun c305 => ?_)
      · skip
        refine tj_iconst 313 dX12_holdsNow_312 rfl ?_
        exact tz_ret (by first | rfl | omega | exact bi_dt (by omega) | exact bi_df (by omega) | (rw [holF_4 w17.1 (by omega), w17.2.1]; simp [bi, *])) rfl dX12_holdsNow_313
      · skip
        refine tj_iconst 309 dX12_holdsNow_308 rfl ?_
        refine ev_goto 313 dX12_holdsNow_309 (by decide) ?_
        exact tz_ret (by first | rfl | omega | exact bi_dt (by omega) | exact bi_df (by omega) | (rw [holF_4 w17.1 (by omega), w17.2.1]; simp [bi, *])) rfl dX12_holdsNow_313
  · exact False.elim (by omega)
theorem c_X12_holdsNow_s {g : Gt} {α : AL} {ν : Nat → Nat → Bool} {X : XM} {h : AH} (hT : TR g α ν X h) {O : XM} (hO : WO O) (hM : RM O X) {s : Nat} (hs : (s : Int) < nS O) : HN g α O h (s : Int) (O 8 s) (tak O s) (ernd O s) (nF O) := by
  suffices k : ∀ n : Nat, ∀ y : Int, 0 ≤ y → y < nF O → y.toNat < n → ∀ d : Nat, 4 + 2 * (O 16 y.toNat 0).toNat ≤ d → Pr g M_X12_holdsNow d [.ref (α 40 0), .int (J y), .int (J (s : Int))] h (some (.int (J (bi (holF O (O 8 s) (tak O s) (ernd O s) y.toNat))))) from
    fun y h0 h1 d hd => k (y.toNat + 1) y h0 h1 (Nat.lt_succ_self _) d hd
  intro n
  induction n with
  | zero => intro y _ _ hn; exact absurd hn (Nat.not_lt_zero _)
  | succ n ih =>
    intro y h0 h1 hn d hd
    have e : y = (y.toNat : Int) := by omega
    rw [show J y = J (y.toNat : Int) from congrArg J e]
    exact c_X12_holdsNow_s_open hT hO hM hs (by omega) (fun y2 a1 a2 d2 a3 => ih y2 a1 (by omega) (by omega) d2 a3) hd
set_option maxRecDepth 100000 in
set_option maxHeartbeats 4000000 in
theorem c_X12_times_n_open {g : Gt} {α : AL} {ν : Nat → Nat → Bool} {X : XM} {h : AH} (hT : TR g α ν X h) {O : XM} (hO : WO O) (hM : RM O X) {nf : Nat → Int} (hz : bitsE (X 40 0 29) nf) {f : Nat} (hf : (f : Int) < nF O) (H : HN g α O h (-1) (nbF nf) ntF (neF O nf) f) {d : Nat} (hd : 3 + 2 * (O 16 f 0).toNat ≤ d) (hk : X 58 0 f = 5) : Pr g M_X12_times d [.ref (α 40 0), .int (J (f : Int)), .int (J (-1))] h (some (.int (J (bi (holF O (nbF nf) ntF (neF O nf) (O 16 f 2).toNat) + bi (holF O (nbF nf) ntF (neF O nf) (O 16 f 3).toNat) + bi (holF O (nbF nf) ntF (neF O nf) (O 16 f 4).toNat))))) := by
  refine pr_of rfl rfl (ls := [some (.ref (α 40 0)), some (.int (J (f : Int))), some (.int (J (-1)))]) rfl (Nat.le_of_ble_eq_true rfl) ?_
  show Ev g M_X12_times d 0 [some (.ref (α 40 0)), some (.int (J (f : Int))), some (.int (J (-1)))] [] h 0 0 (PQ (some (.int (J (bi (holF O (nbF nf) ntF (neF O nf) (O 16 f 2).toNat) + bi (holF O (nbF nf) ntF (neF O nf) (O 16 f 3).toNat) + bi (holF O (nbF nf) ntF (neF O nf) (O 16 f 4).toNat))))) h)
  have q0 := rm_nC hM
  have q1 := wo_nC hO
  have q2 := rm_nS hM
  have q3 := wo_nS hO
  have qf := wo_nF hO
  have qd := wo_dep hO f hf
  have qd1 := wo_dp0 hO (X 59 0 f).toNat
  have qd2 := wo_dp0 hO (X 60 0 f).toNat
  have qd3 := wo_dp0 hO (X 61 0 f).toNat
  have qe : 0 ≤ neF O nf ∧ neF O nf ≤ 6 * ((nC O).toNat : Int) := crS_0 hO (fun c => decide (nf c ≠ 0)) (nC O).toNat (by omega)
  obtain ⟨w2, w3, w4, w5, w6, w7, w8, w9, w10, w11, w12, w13, w14, w15⟩ := fkX5 hO hM hf hk
  refine ev_ald0 1 dX12_times_0 rfl ?_
  refine ev_ald0 2 dX12_times_1 rfl ?_
  refine ev_getfield 5 14 19 fl_X12_49_14 (tr40 hT) rfl dX12_times_2 rfl ?_
  refine ev_ild1 6 dX12_times_5 rfl ?_
  refine tv_iald 7 (tr59 hT) (f) (by omega) (by omega) (by omega) dX12_times_6 rfl ?_
  refine ev_ild2 8 dX12_times_7 rfl ?_
  refine tc_V2 11 14 dX12_times_8 lkv_X12_130 (tr40 hT) rfl rfl (by first | decide | omega) (Nat.le_of_ble_eq_true rfl) (H _ (by omega) (by omega) _ (Nat.le_refl _)) ?_
  refine tb_if_eq 18 14 dX12_times_11 (by decide) rfl (fun c11 => ?_) (fun c11 => ?_)
  · skip
    refine tj_iconst 19 dX12_times_18 rfl ?_
    refine ev_ald0 20 dX12_times_19 rfl ?_
    refine ev_ald0 21 dX12_times_20 rfl ?_
    refine ev_getfield 24 14 20 fl_X12_52_14 (tr40 hT) rfl dX12_times_21 rfl ?_
    refine ev_ild1 25 dX12_times_24 rfl ?_
    refine tv_iald 26 (tr60 hT) (f) (by omega) (by omega) (by omega) dX12_times_25 rfl ?_
    refine ev_ild2 27 dX12_times_26 rfl ?_
    refine tc_V2 30 14 dX12_times_27 lkv_X12_130 (tr40 hT) rfl rfl (by first | decide | omega) (Nat.le_of_ble_eq_true rfl) (H _ (by omega) (by omega) _ (Nat.le_refl _)) ?_
    refine tb_if_eq 37 33 dX12_times_30 (by decide) rfl (fun c30 => ?_) (fun c30 => ?_)
    · skip
      refine tj_iconst 38 dX12_times_37 rfl ?_
      refine tj_iadd 39 dX12_times_38 rfl ?_
      refine ev_ald0 40 dX12_times_39 rfl ?_
      refine ev_ald0 41 dX12_times_40 rfl ?_
      refine ev_getfield 44 14 21 fl_X12_55_14 (tr40 hT) rfl dX12_times_41 rfl ?_
      refine ev_ild1 45 dX12_times_44 rfl ?_
      refine tv_iald 46 (tr61 hT) (f) (by omega) (by omega) (by omega) dX12_times_45 rfl ?_
      refine ev_ild2 47 dX12_times_46 rfl ?_
      refine tc_V2 50 14 dX12_times_47 lkv_X12_130 (tr40 hT) rfl rfl (by first | decide | omega) (Nat.le_of_ble_eq_true rfl) (H _ (by omega) (by omega) _ (Nat.le_refl _)) ?_
      refine tb_if_eq 57 53 dX12_times_50 (by decide) rfl (fun c50 => ?_) (fun c50 => ?_)
      · skip
        refine tj_iconst 58 dX12_times_57 rfl ?_
        refine tj_iadd 59 dX12_times_58 rfl ?_
        exact ev_ireturn (pq_i (by first | rfl | omega | exact bi_dt (by omega) | exact bi_df (by omega) | (rw [w4, w5, w6]; simp [bi, *]))) rfl dX12_times_59
      · skip
        refine tj_iconst 54 dX12_times_53 rfl ?_
        refine ev_goto 58 dX12_times_54 (by decide) ?_
        refine tj_iadd 59 dX12_times_58 rfl ?_
        exact ev_ireturn (pq_i (by first | rfl | omega | exact bi_dt (by omega) | exact bi_df (by omega) | (rw [w4, w5, w6]; simp [bi, *]))) rfl dX12_times_59
    · skip
      refine tj_iconst 34 dX12_times_33 rfl ?_
      refine ev_goto 38 dX12_times_34 (by decide) ?_
      refine tj_iadd 39 dX12_times_38 rfl ?_
      refine ev_ald0 40 dX12_times_39 rfl ?_
      refine ev_ald0 41 dX12_times_40 rfl ?_
      refine ev_getfield 44 14 21 fl_X12_55_14 (tr40 hT) rfl dX12_times_41 rfl ?_
      refine ev_ild1 45 dX12_times_44 rfl ?_
      refine tv_iald 46 (tr61 hT) (f) (by omega) (by omega) (by omega) dX12_times_45 rfl ?_
      refine ev_ild2 47 dX12_times_46 rfl ?_
      refine tc_V2 50 14 dX12_times_47 lkv_X12_130 (tr40 hT) rfl rfl (by first | decide | omega) (Nat.le_of_ble_eq_true rfl) (H _ (by omega) (by omega) _ (Nat.le_refl _)) ?_
      refine tb_if_eq 57 53 dX12_times_50 (by decide) rfl (fun c50 => ?_) (fun c50 => ?_)
      · skip
        refine tj_iconst 58 dX12_times_57 rfl ?_
        refine tj_iadd 59 dX12_times_58 rfl ?_
        exact ev_ireturn (pq_i (by first | rfl | omega | exact bi_dt (by omega) | exact bi_df (by omega) | (rw [w4, w5, w6]; simp [bi, *]))) rfl dX12_times_59
      · skip
        refine tj_iconst 54 dX12_times_53 rfl ?_
        refine ev_goto 58 dX12_times_54 (by decide) ?_
        refine tj_iadd 59 dX12_times_58 rfl ?_
        exact ev_ireturn (pq_i (by first | rfl | omega | exact bi_dt (by omega) | exact bi_df (by omega) | (rw [w4, w5, w6]; simp [bi, *]))) rfl dX12_times_59
  · skip
    refine tj_iconst 15 dX12_times_14 rfl ?_
    refine ev_goto 19 dX12_times_15 (by decide) ?_
    refine ev_ald0 20 dX12_times_19 rfl ?_
    refine ev_ald0 21 dX12_times_20 rfl ?_
    refine ev_getfield 24 14 20 fl_X12_52_14 (tr40 hT) rfl dX12_times_21 rfl ?_
    refine ev_ild1 25 dX12_times_24 rfl ?_
    refine tv_iald 26 (tr60 hT) (f) (by omega) (by omega) (by omega) dX12_times_25 rfl ?_
    refine ev_ild2 27 dX12_times_26 rfl ?_
    refine tc_V2 30 14 dX12_times_27 lkv_X12_130 (tr40 hT) rfl rfl (by first | decide | omega) (Nat.le_of_ble_eq_true rfl) (H _ (by omega) (by omega) _ (Nat.le_refl _)) ?_
    refine tb_if_eq 37 33 dX12_times_30 (by decide) rfl (fun c30 => ?_) (fun c30 => ?_)
    · skip
      refine tj_iconst 38 dX12_times_37 rfl ?_
      refine tj_iadd 39 dX12_times_38 rfl ?_
      refine ev_ald0 40 dX12_times_39 rfl ?_
      refine ev_ald0 41 dX12_times_40 rfl ?_
      refine ev_getfield 44 14 21 fl_X12_55_14 (tr40 hT) rfl dX12_times_41 rfl ?_
      refine ev_ild1 45 dX12_times_44 rfl ?_
      refine tv_iald 46 (tr61 hT) (f) (by omega) (by omega) (by omega) dX12_times_45 rfl ?_
      refine ev_ild2 47 dX12_times_46 rfl ?_
      refine tc_V2 50 14 dX12_times_47 lkv_X12_130 (tr40 hT) rfl rfl (by first | decide | omega) (Nat.le_of_ble_eq_true rfl) (H _ (by omega) (by omega) _ (Nat.le_refl _)) ?_
      refine tb_if_eq 57 53 dX12_times_50 (by decide) rfl (fun c50 => ?_) (fun c50 => ?_)
      · skip
        refine tj_iconst 58 dX12_times_57 rfl ?_
        refine tj_iadd 59 dX12_times_58 rfl ?_
        exact ev_ireturn (pq_i (by first | rfl | omega | exact bi_dt (by omega) | exact bi_df (by omega) | (rw [w4, w5, w6]; simp [bi, *]))) rfl dX12_times_59
      · skip
        refine tj_iconst 54 dX12_times_53 rfl ?_
        refine ev_goto 58 dX12_times_54 (by decide) ?_
        refine tj_iadd 59 dX12_times_58 rfl ?_
        exact ev_ireturn (pq_i (by first | rfl | omega | exact bi_dt (by omega) | exact bi_df (by omega) | (rw [w4, w5, w6]; simp [bi, *]))) rfl dX12_times_59
    · skip
      refine tj_iconst 34 dX12_times_33 rfl ?_
      refine ev_goto 38 dX12_times_34 (by decide) ?_
      refine tj_iadd 39 dX12_times_38 rfl ?_
      refine ev_ald0 40 dX12_times_39 rfl ?_
      refine ev_ald0 41 dX12_times_40 rfl ?_
      refine ev_getfield 44 14 21 fl_X12_55_14 (tr40 hT) rfl dX12_times_41 rfl ?_
      refine ev_ild1 45 dX12_times_44 rfl ?_
      refine tv_iald 46 (tr61 hT) (f) (by omega) (by omega) (by omega) dX12_times_45 rfl ?_
      refine ev_ild2 47 dX12_times_46 rfl ?_
      refine tc_V2 50 14 dX12_times_47 lkv_X12_130 (tr40 hT) rfl rfl (by first | decide | omega) (Nat.le_of_ble_eq_true rfl) (H _ (by omega) (by omega) _ (Nat.le_refl _)) ?_
      refine tb_if_eq 57 53 dX12_times_50 (by decide) rfl (fun c50 => ?_) (fun c50 => ?_)
      · skip
        refine tj_iconst 58 dX12_times_57 rfl ?_
        refine tj_iadd 59 dX12_times_58 rfl ?_
        exact ev_ireturn (pq_i (by first | rfl | omega | exact bi_dt (by omega) | exact bi_df (by omega) | (rw [w4, w5, w6]; simp [bi, *]))) rfl dX12_times_59
      · skip
        refine tj_iconst 54 dX12_times_53 rfl ?_
        refine ev_goto 58 dX12_times_54 (by decide) ?_
        refine tj_iadd 59 dX12_times_58 rfl ?_
        exact ev_ireturn (pq_i (by first | rfl | omega | exact bi_dt (by omega) | exact bi_df (by omega) | (rw [w4, w5, w6]; simp [bi, *]))) rfl dX12_times_59
set_option maxRecDepth 100000 in
set_option maxHeartbeats 4000000 in
theorem c_X12_holdsNow_n_open {g : Gt} {α : AL} {ν : Nat → Nat → Bool} {X : XM} {h : AH} (hT : TR g α ν X h) {O : XM} (hO : WO O) (hM : RM O X) {nf : Nat → Int} (hz : bitsE (X 40 0 29) nf) {f : Nat} (hf : (f : Int) < nF O) (H : HN g α O h (-1) (nbF nf) ntF (neF O nf) f) {d : Nat} (hd : 4 + 2 * (O 16 f 0).toNat ≤ d) : Pr g M_X12_holdsNow d [.ref (α 40 0), .int (J (f : Int)), .int (J (-1))] h (some (.int (J (bi (holF O (nbF nf) ntF (neF O nf) f))))) := by
  refine pr_of rfl rfl (ls := [some (.ref (α 40 0)), some (.int (J (f : Int))), some (.int (J (-1))), none]) rfl (Nat.le_of_ble_eq_true rfl) ?_
  show Ev g M_X12_holdsNow d 0 [some (.ref (α 40 0)), some (.int (J (f : Int))), some (.int (J (-1))), none] [] h 0 0 (PQ (some (.int (J (bi (holF O (nbF nf) ntF (neF O nf) f))))) h)
  have q0 := rm_nC hM
  have q1 := wo_nC hO
  have q2 := rm_nS hM
  have q3 := wo_nS hO
  have qf := wo_nF hO
  have qd := wo_dep hO f hf
  have qd1 := wo_dp0 hO (X 59 0 f).toNat
  have qd2 := wo_dp0 hO (X 60 0 f).toNat
  have qd3 := wo_dp0 hO (X 61 0 f).toNat
  have qe : 0 ≤ neF O nf ∧ neF O nf ≤ 6 * ((nC O).toNat : Int) := crS_0 hO (fun c => decide (nf c ≠ 0)) (nC O).toNat (by omega)
  have z1 := bi_01 (holF O (nbF nf) ntF (neF O nf) (O 16 f 2).toNat)
  have z2 := bi_01 (holF O (nbF nf) ntF (neF O nf) (O 16 f 3).toNat)
  have z3 := bi_01 (holF O (nbF nf) ntF (neF O nf) (O 16 f 4).toNat)
  refine ev_ild2 1 dX12_holdsNow_0 rfl ?_
  refine tj_iconst 2 dX12_holdsNow_1 rfl ?_
  refine tj_icmp_ne 9 5 dX12_holdsNow_2 (by decide) rfl (by first | exact TR.rng hT _ _ _ | exact R31_of _ | exact bi_R _ | (constructor <;> omega)) (by first | exact TR.rng hT _ _ _ | exact R31_of _ | exact bi_R _ | (constructor <;> omega)) (fun c2 => ?_) (fun c2 => ?_)
  · exact False.elim (by omega)
  · skip
    refine tj_iconst 6 dX12_holdsNow_5 rfl ?_
    refine ev_goto 10 dX12_holdsNow_6 (by decide) ?_
    refine ev_ist3 11 dX12_holdsNow_10 rfl (by decide) rfl ?_
    refine ev_ald0 12 dX12_holdsNow_11 rfl ?_
    refine ev_getfield 15 14 18 fl_X12_46_14 (tr40 hT) rfl dX12_holdsNow_12 rfl ?_
    refine ev_ild1 16 dX12_holdsNow_15 rfl ?_
    refine tv_iald 17 (tr58 hT) (f) (by omega) (by omega) (by omega) dX12_holdsNow_16 rfl ?_
    rcases (fkX hO hM hf) with ⟨c17, w17⟩ | ⟨c17, w17⟩ | ⟨c17, w17⟩ | ⟨c17, w17⟩ | ⟨c17, w17⟩ | ⟨c17, w17⟩ | ⟨c17, w17⟩
    · skip
      refine ev_tswIn 0 56 dX12_holdsNow_17 (by omega) rfl (by decide) (by first | exact TR.rng hT _ _ _ | exact R31_of _ | exact bi_R _ | (constructor <;> omega)) (by decide) ?_
      refine ev_ild3 57 dX12_holdsNow_56 rfl ?_
      refine tj_if_eq 76 60 dX12_holdsNow_57 (by decide) rfl (by first | exact TR.rng hT _ _ _ | exact R31_of _ | exact bi_R _ | (constructor <;> omega)) (fun c57 => ?_) (fun c57 => ?_)
      · exact False.elim (by omega)
      · skip
        refine ev_ald0 61 dX12_holdsNow_60 rfl ?_
        refine ev_getfield 64 14 29 fl_X12_120_14 (tr40 hT) rfl dX12_holdsNow_61 rfl ?_
        refine ev_ald0 65 dX12_holdsNow_64 rfl ?_
        refine ev_getfield 68 14 19 fl_X12_49_14 (tr40 hT) rfl dX12_holdsNow_65 rfl ?_
        refine ev_ild1 69 dX12_holdsNow_68 rfl ?_
        refine tv_iald 70 (tr59 hT) (f) (by omega) (by omega) (by omega) dX12_holdsNow_69 rfl ?_
        refine tc_S2 73 dX12_holdsNow_70 lks_X12_106 rfl (by first | decide | omega) (Nat.le_of_ble_eq_true rfl) (i_has hz (by omega)) ?_
        refine ev_goto 116 dX12_holdsNow_73 (by decide) ?_
        exact tz_ret (by first | rfl | omega | exact bi_dt (by omega) | exact bi_df (by omega) | (rw [holF_0 w17.1, w17.2.1, w17.2.2.1]; (first | (exact bi_dt (by omega)) | (exact bi_df (by omega)) | (by_cases cz : nf (X 59 0 f).toNat = 0 <;> simp [bi, nbF, cz] <;> omega)))) rfl dX12_holdsNow_116
    · skip
      refine ev_tswIn 1 117 dX12_holdsNow_17 (by omega) rfl (by decide) (by first | exact TR.rng hT _ _ _ | exact R31_of _ | exact bi_R _ | (constructor <;> omega)) (by decide) ?_
      refine ev_ild3 118 dX12_holdsNow_117 rfl ?_
      refine tj_if_eq 137 121 dX12_holdsNow_118 (by decide) rfl (by first | exact TR.rng hT _ _ _ | exact R31_of _ | exact bi_R _ | (constructor <;> omega)) (fun c118 => ?_) (fun c118 => ?_)
      · exact False.elim (by omega)
      · skip
        refine ev_ald0 122 dX12_holdsNow_121 rfl ?_
        refine ev_getfield 125 14 29 fl_X12_120_14 (tr40 hT) rfl dX12_holdsNow_122 rfl ?_
        refine ev_ald0 126 dX12_holdsNow_125 rfl ?_
        refine ev_getfield 129 14 19 fl_X12_49_14 (tr40 hT) rfl dX12_holdsNow_126 rfl ?_
        refine ev_ild1 130 dX12_holdsNow_129 rfl ?_
        refine tv_iald 131 (tr59 hT) (f) (by omega) (by omega) (by omega) dX12_holdsNow_130 rfl ?_
        refine tc_S2 134 dX12_holdsNow_131 lks_X12_106 rfl (by first | decide | omega) (Nat.le_of_ble_eq_true rfl) (i_has hz (by omega)) ?_
        refine ev_goto 174 dX12_holdsNow_134 (by decide) ?_
        exact tz_ret (by first | rfl | omega | exact bi_dt (by omega) | exact bi_df (by omega) | (rw [holF_1 w17.1, w17.2.1]; (first | (show _ = bi (tak O s (X 59 0 f).toNat || psd O s (X 59 0 f).toNat); simp [bi, *]; done) | (by_cases cz : nf (X 59 0 f).toNat = 0 <;> simp [bi, nbF, ntF, cz])))) rfl dX12_holdsNow_174
    · skip
      refine ev_tswIn 2 175 dX12_holdsNow_17 (by omega) rfl (by decide) (by first | exact TR.rng hT _ _ _ | exact R31_of _ | exact bi_R _ | (constructor <;> omega)) (by decide) ?_
      refine ev_ild3 176 dX12_holdsNow_175 rfl ?_
      refine tj_if_eq 190 179 dX12_holdsNow_176 (by decide) rfl (by first | exact TR.rng hT _ _ _ | exact R31_of _ | exact bi_R _ | (constructor <;> omega)) (fun c176 => ?_) (fun c176 => ?_)
      · exact False.elim (by omega)
      · skip
        refine ev_ald0 180 dX12_holdsNow_179 rfl ?_
        refine ev_ald0 181 dX12_holdsNow_180 rfl ?_
        refine ev_getfield 184 14 29 fl_X12_120_14 (tr40 hT) rfl dX12_holdsNow_181 rfl ?_
        refine tc_V1 187 14 dX12_holdsNow_184 lkv_X12_123 (tr40 hT) rfl rfl (by first | decide | omega) (Nat.le_of_ble_eq_true rfl) (i_creditsN hT hO hM hz) ?_
        refine ev_goto 195 dX12_holdsNow_187 (by decide) ?_
        refine ev_ald0 196 dX12_holdsNow_195 rfl ?_
        refine ev_getfield 199 14 19 fl_X12_49_14 (tr40 hT) rfl dX12_holdsNow_196 rfl ?_
        refine ev_ild1 200 dX12_holdsNow_199 rfl ?_
        refine tv_iald 201 (tr59 hT) (f) (by omega) (by omega) (by omega) dX12_holdsNow_200 rfl ?_
        refine tj_icmp_lt 208 204 dX12_holdsNow_201 (by decide) rfl (by first | exact TR.rng hT _ _ _ | exact R31_of _ | exact bi_R _ | (constructor <;> omega)) (by first | exact TR.rng hT _ _ _ | exact R31_of _ | exact bi_R _ | (constructor <;> omega)) (fun c201 => ?_) (fun c201 => ?_)
        · skip
          refine tj_iconst 209 dX12_holdsNow_208 rfl ?_
          exact tz_ret (by first | rfl | omega | exact bi_dt (by omega) | exact bi_df (by omega) | (rw [holF_2 w17.1, w17.2]; simp [bi]; omega)) rfl dX12_holdsNow_209
        · skip
          refine tj_iconst 205 dX12_holdsNow_204 rfl ?_
          refine ev_goto 209 dX12_holdsNow_205 (by decide) ?_
          exact tz_ret (by first | rfl | omega | exact bi_dt (by omega) | exact bi_df (by omega) | (rw [holF_2 w17.1, w17.2]; simp [bi]; omega)) rfl dX12_holdsNow_209
    · skip
      refine ev_tswIn 3 210 dX12_holdsNow_17 (by omega) rfl (by decide) (by first | exact TR.rng hT _ _ _ | exact R31_of _ | exact bi_R _ | (constructor <;> omega)) (by decide) ?_
      refine ev_ald0 211 dX12_holdsNow_210 rfl ?_
      refine ev_ald0 212 dX12_holdsNow_211 rfl ?_
      refine ev_getfield 215 14 19 fl_X12_49_14 (tr40 hT) rfl dX12_holdsNow_212 rfl ?_
      refine ev_ild1 216 dX12_holdsNow_215 rfl ?_
      refine tv_iald 217 (tr59 hT) (f) (by omega) (by omega) (by omega) dX12_holdsNow_216 rfl ?_
      refine ev_ild2 218 dX12_holdsNow_217 rfl ?_
      refine tc_V2 221 14 dX12_holdsNow_218 lkv_X12_130 (tr40 hT) rfl rfl (by first | decide | omega) (Nat.le_of_ble_eq_true rfl) (H _ (by omega) (by omega) _ (Nat.le_refl _)) ?_
      refine tb_if_eq 242 224 dX12_holdsNow_221 (by decide) rfl (fun c221 => ?_) (fun c221 => ?_)
      · skip
        refine tj_iconst 243 dX12_holdsNow_242 rfl ?_
        exact tz_ret (by first | rfl | omega | exact bi_dt (by omega) | exact bi_df (by omega) | (rw [holF_3 w17.1 (by omega) (by omega) (by omega), w17.2.1, w17.2.2.1, w17.2.2.2.1, w17.2.2.2.2.1]; simp [bi, *] <;> split <;> omega)) rfl dX12_holdsNow_243
      · skip
        refine ev_ald0 225 dX12_holdsNow_224 rfl ?_
        refine ev_ald0 226 dX12_holdsNow_225 rfl ?_
        refine ev_getfield 229 14 20 fl_X12_52_14 (tr40 hT) rfl dX12_holdsNow_226 rfl ?_
        refine ev_ild1 230 dX12_holdsNow_229 rfl ?_
        refine tv_iald 231 (tr60 hT) (f) (by omega) (by omega) (by omega) dX12_holdsNow_230 rfl ?_
        refine ev_ild2 232 dX12_holdsNow_231 rfl ?_
        refine tc_V2 235 14 dX12_holdsNow_232 lkv_X12_130 (tr40 hT) rfl rfl (by first | decide | omega) (Nat.le_of_ble_eq_true rfl) (H _ (by omega) (by omega) _ (Nat.le_refl _)) ?_
        refine tb_if_eq 242 238 dX12_holdsNow_235 (by decide) rfl (fun c235 => ?_) (fun c235 => ?_)
        · skip
          refine tj_iconst 243 dX12_holdsNow_242 rfl ?_
          exact tz_ret (by first | rfl | omega | exact bi_dt (by omega) | exact bi_df (by omega) | (rw [holF_3 w17.1 (by omega) (by omega) (by omega), w17.2.1, w17.2.2.1, w17.2.2.2.1, w17.2.2.2.2.1]; simp [bi, *] <;> split <;> omega)) rfl dX12_holdsNow_243
        · skip
          refine tj_iconst 239 dX12_holdsNow_238 rfl ?_
          refine ev_goto 243 dX12_holdsNow_239 (by decide) ?_
          exact tz_ret (by first | rfl | omega | exact bi_dt (by omega) | exact bi_df (by omega) | (rw [holF_3 w17.1 (by omega) (by omega) (by omega), w17.2.1, w17.2.2.1, w17.2.2.2.1, w17.2.2.2.2.1]; simp [bi, *] <;> split <;> omega)) rfl dX12_holdsNow_243
    · skip
      refine ev_tswIn 4 244 dX12_holdsNow_17 (by omega) rfl (by decide) (by first | exact TR.rng hT _ _ _ | exact R31_of _ | exact bi_R _ | (constructor <;> omega)) (by decide) ?_
      refine ev_ald0 245 dX12_holdsNow_244 rfl ?_
      refine ev_ald0 246 dX12_holdsNow_245 rfl ?_
      refine ev_getfield 249 14 19 fl_X12_49_14 (tr40 hT) rfl dX12_holdsNow_246 rfl ?_
      refine ev_ild1 250 dX12_holdsNow_249 rfl ?_
      refine tv_iald 251 (tr59 hT) (f) (by omega) (by omega) (by omega) dX12_holdsNow_250 rfl ?_
      refine ev_ild2 252 dX12_holdsNow_251 rfl ?_
      refine tc_V2 255 14 dX12_holdsNow_252 lkv_X12_130 (tr40 hT) rfl rfl (by first | decide | omega) (Nat.le_of_ble_eq_true rfl) (H _ (by omega) (by omega) _ (Nat.le_refl _)) ?_
      refine tb_if_ne 272 258 dX12_holdsNow_255 (by decide) rfl (fun c255 => ?_) (fun c255 => ?_)
      · skip
        refine tj_iconst 273 dX12_holdsNow_272 rfl ?_
        refine ev_goto 277 dX12_holdsNow_273 (by decide) ?_
        exact tz_ret (by first | rfl | omega | exact bi_dt (by omega) | exact bi_df (by omega) | (rw [holF_3 w17.1 (by omega) (by omega) (by omega), w17.2.1, w17.2.2.1, w17.2.2.2.1, w17.2.2.2.2.1]; simp [bi, *] <;> split <;> omega)) rfl dX12_holdsNow_277
      · skip
        refine ev_ald0 259 dX12_holdsNow_258 rfl ?_
        refine ev_ald0 260 dX12_holdsNow_259 rfl ?_
        refine ev_getfield 263 14 20 fl_X12_52_14 (tr40 hT) rfl dX12_holdsNow_260 rfl ?_
        refine ev_ild1 264 dX12_holdsNow_263 rfl ?_
        refine tv_iald 265 (tr60 hT) (f) (by omega) (by omega) (by omega) dX12_holdsNow_264 rfl ?_
        refine ev_ild2 266 dX12_holdsNow_265 rfl ?_
        refine tc_V2 269 14 dX12_holdsNow_266 lkv_X12_130 (tr40 hT) rfl rfl (by first | decide | omega) (Nat.le_of_ble_eq_true rfl) (H _ (by omega) (by omega) _ (Nat.le_refl _)) ?_
        refine tb_if_eq 276 272 dX12_holdsNow_269 (by decide) rfl (fun c269 => ?_) (fun c269 => ?_)
        · skip
          refine tj_iconst 277 dX12_holdsNow_276 rfl ?_
          exact tz_ret (by first | rfl | omega | exact bi_dt (by omega) | exact bi_df (by omega) | (rw [holF_3 w17.1 (by omega) (by omega) (by omega), w17.2.1, w17.2.2.1, w17.2.2.2.1, w17.2.2.2.2.1]; simp [bi, *] <;> split <;> omega)) rfl dX12_holdsNow_277
        · skip
          refine tj_iconst 273 dX12_holdsNow_272 rfl ?_
          refine ev_goto 277 dX12_holdsNow_273 (by decide) ?_
          exact tz_ret (by first | rfl | omega | exact bi_dt (by omega) | exact bi_df (by omega) | (rw [holF_3 w17.1 (by omega) (by omega) (by omega), w17.2.1, w17.2.2.1, w17.2.2.2.1, w17.2.2.2.2.1]; simp [bi, *] <;> split <;> omega)) rfl dX12_holdsNow_277
    · skip
      refine ev_tswIn 5 278 dX12_holdsNow_17 (by omega) rfl (by decide) (by first | exact TR.rng hT _ _ _ | exact R31_of _ | exact bi_R _ | (constructor <;> omega)) (by decide) ?_
      refine ev_ald0 279 dX12_holdsNow_278 rfl ?_
      refine ev_ild1 280 dX12_holdsNow_279 rfl ?_
      refine ev_ild2 281 dX12_holdsNow_280 rfl ?_
      refine tc_V2 284 14 dX12_holdsNow_281 lkv_X12_133 (tr40 hT) rfl rfl (by first | decide | omega) (Nat.le_of_ble_eq_true rfl) (c_X12_times_n_open hT hO hM hz hf H (Nat.le_refl _) (by omega)) ?_
      refine tj_iconst 285 dX12_holdsNow_284 rfl ?_
      refine tj_icmp_lt 292 288 dX12_holdsNow_285 (by decide) rfl (by first | exact TR.rng hT _ _ _ | exact R31_of _ | exact bi_R _ | (constructor <;> omega)) (by first | exact TR.rng hT _ _ _ | exact R31_of _ | exact bi_R _ | (constructor <;> omega)) (fun c285 => ?_) (fun c285 => ?_)
      · skip
        refine tj_iconst 293 dX12_holdsNow_292 rfl ?_
        exact tz_ret (by first | rfl | omega | exact bi_dt (by omega) | exact bi_df (by omega) | (rw [holF_3 w17.1 (by omega) (by omega) (by omega), w17.2.1, decide_eq_true (show O 16 f 4 ≠ -1 by omega), Bool.true_and]; (first | exact bi_dt (by omega) | exact bi_df (by omega)))) rfl dX12_holdsNow_293
      · skip
        refine tj_iconst 289 dX12_holdsNow_288 rfl ?_
        refine ev_goto 293 dX12_holdsNow_289 (by decide) ?_
        exact tz_ret (by first | rfl | omega | exact bi_dt (by omega) | exact bi_df (by omega) | (rw [holF_3 w17.1 (by omega) (by omega) (by omega), w17.2.1, decide_eq_true (show O 16 f 4 ≠ -1 by omega), Bool.true_and]; (first | exact bi_dt (by omega) | exact bi_df (by omega)))) rfl dX12_holdsNow_293
    · skip
      refine ev_tswOut 294 dX12_holdsNow_17 (by first | exact TR.rng hT _ _ _ | exact R31_of _ | exact bi_R _ | (constructor <;> omega)) (by omega) (by decide) ?_
      refine ev_ald0 295 dX12_holdsNow_294 rfl ?_
      refine ev_ald0 296 dX12_holdsNow_295 rfl ?_
      refine ev_getfield 299 14 19 fl_X12_49_14 (tr40 hT) rfl dX12_holdsNow_296 rfl ?_
      refine ev_ild1 300 dX12_holdsNow_299 rfl ?_
      refine tv_iald 301 (tr59 hT) (f) (by omega) (by omega) (by omega) dX12_holdsNow_300 rfl ?_
      refine ev_ild2 302 dX12_holdsNow_301 rfl ?_
      refine tc_V2 305 14 dX12_holdsNow_302 lkv_X12_130 (tr40 hT) rfl rfl (by first | decide | omega) (Nat.le_of_ble_eq_true rfl) (H _ (by omega) (by omega) _ (Nat.le_refl _)) ?_
      refine tb_if_ne 312 308 dX12_holdsNow_305 (by decide) rfl (fun c305 => ?_) (fun c305 => ?_)
      · skip
        refine tj_iconst 313 dX12_holdsNow_312 rfl ?_
        exact tz_ret (by first | rfl | omega | exact bi_dt (by omega) | exact bi_df (by omega) | (rw [holF_4 w17.1 (by omega), w17.2.1]; simp [bi, *])) rfl dX12_holdsNow_313
      · skip
        refine tj_iconst 309 dX12_holdsNow_308 rfl ?_
        refine ev_goto 313 dX12_holdsNow_309 (by decide) ?_
        exact tz_ret (by first | rfl | omega | exact bi_dt (by omega) | exact bi_df (by omega) | (rw [holF_4 w17.1 (by omega), w17.2.1]; simp [bi, *])) rfl dX12_holdsNow_313
theorem c_X12_holdsNow_n {g : Gt} {α : AL} {ν : Nat → Nat → Bool} {X : XM} {h : AH} (hT : TR g α ν X h) {O : XM} (hO : WO O) (hM : RM O X) {nf : Nat → Int} (hz : bitsE (X 40 0 29) nf) : HN g α O h (-1) (nbF nf) ntF (neF O nf) (nF O) := by
  suffices k : ∀ n : Nat, ∀ y : Int, 0 ≤ y → y < nF O → y.toNat < n → ∀ d : Nat, 4 + 2 * (O 16 y.toNat 0).toNat ≤ d → Pr g M_X12_holdsNow d [.ref (α 40 0), .int (J y), .int (J (-1))] h (some (.int (J (bi (holF O (nbF nf) ntF (neF O nf) y.toNat))))) from
    fun y h0 h1 d hd => k (y.toNat + 1) y h0 h1 (Nat.lt_succ_self _) d hd
  intro n
  induction n with
  | zero => intro y _ _ hn; exact absurd hn (Nat.not_lt_zero _)
  | succ n ih =>
    intro y h0 h1 hn d hd
    have e : y = (y.toNat : Int) := by omega
    rw [show J y = J (y.toNat : Int) from congrArg J e]
    exact c_X12_holdsNow_n_open hT hO hM hz (by omega) (fun y2 a1 a2 d2 a3 => ih y2 a1 (by omega) (by omega) d2 a3) hd
