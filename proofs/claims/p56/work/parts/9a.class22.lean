/-! THE CLASS MAKES: courses, students, rules, formulas -/
def AQ (g : Gt) (v : Option Value) (P : AL → (Nat → Nat → Bool) → XM → Prop) : RT → AH → Prop := fun r h' => r = .inl v ∧ ∃ α' ν' X', TR g α' ν' X' h' ∧ P α' ν' X'
/-- the memory's groups are those of the office -/
def NV (ν : Nat → Nat → Bool) (X : XM) : Prop := CLO ν X ∧ (∀ s : Nat, ν 4 s = true → (s : Int) < nS X ∨ s = 16) ∧ (∀ c : Nat, ν 12 c = true → (c : Int) < nC X) ∧ (∀ r : Nat, ν 14 r = true → (r : Int) < nR X) ∧ (∀ f : Nat, ν 16 f = true → (f : Int) < nF X) ∧ ∀ i, ν 2 i = true → 1 ≤ X 2 i 0
section CM1
variable {g : Gt} {α : AL} {ν : Nat → Nat → Bool} {X : XM} {M : Mt} {d pc : Nat} {ls : List (Option Value)} {st : List Value} {h : AH} {mc ms : Nat} {Q : RT → AH → Prop}
theorem al_of {av : List Value} {v : Option Value} {P : AL → (Nat → Nat → Bool) → XM → Prop} (hp : plainName (mY M).cls = true) (hh : mH M = []) (hls : entL (mL M) av = ls) (hlen : (lg_sl av).length ≤ mL M) (k : Ev g M d 0 ls [] h mc ms (AQ g v P)) : Al g M d av h mc ms v P := ct_of_ev hp hh hls hlen k
theorem nv_12 (h : NV ν X) {n : Nat} (hn : nC X = (n : Int)) : ν 12 n = false := by
  cases e : ν 12 n with
  | false => rfl
  | true => have := h.2.2.1 n e; omega
theorem nv_4 (h : NV ν X) {n : Nat} (hn : nS X = (n : Int)) (hl : n < 16) : ν 4 n = false := by
  cases e : ν 4 n with
  | false => rfl
  | true => have := h.2.1 n e; omega
theorem nv_16 (h : NV ν X) {n : Nat} (hn : nF X = (n : Int)) : ν 16 n = false := by
  cases e : ν 16 n with
  | false => rfl
  | true => have := h.2.2.2.2.1 n e; omega
theorem gk_ne {k i a b : Nat} (h : (gk k i).1 ≠ a) : gk k i ≠ (a, b) := fun e => h (by rw [e])
/-- a group that comes keeps the rest closed -/
theorem clo_grow {G : Nat × Nat} {x : XM} (hC : CLO ν X) (hG : G.1 ≠ 2) (hs : G.1 = 4 → G.2 < 17) (hx : ∀ i, gk 1 i = G → x 1 i 1 = 0) : CLO (nuG ν G) (xG X G x) := by
  obtain ⟨h0, h1, h2, h3, h4⟩ := hC
  refine ⟨nuG_old h0, nuG_old h1, fun s e => ?_, fun i hv hn => ?_, fun i j hv hn => ?_⟩
  · unfold nuG at e
    rcases Bool.or_eq_true _ _ ▸ e with e | e
    · exact h2 s e
    · have := of_decide_eq_true e
      rw [this.2]
      exact hs this.1.symm
  · by_cases n : gk 1 i = G
    · rw [xG_eq n, hx i n] at hn
      exact absurd rfl hn
    · rw [xG_ne n] at hn
      rw [vk_nuG n] at hv
      exact nuG_old (h3 i hv hn)
  · have n : gk 2 i ≠ G := fun e => hG (by rw [← e]; rfl)
    rw [xG_ne n] at hn ⊢
    have hv2 : ν 2 i = true := by
      rw [nuG_ne (fun e => hG (by rw [← e]))] at hv
      exact hv
    exact vk_up (fun a b z => nuG_old z) (h4 i j hv2 hn)
theorem lw_grow {G : Nat × Nat} {x : XM} {i : Nat} (hL : LW ν X i) (hG : G.1 ≠ 2) (hn : gk 1 i ≠ G) : LW (nuG ν G) (xG X G x) i := by
  have n : gk 2 i ≠ G := fun e => hG (by rw [← e]; rfl)
  unfold LW
  rw [xG_ne n, xG_ne hn]
  exact ⟨vk_up (fun a b z => nuG_old z) hL.1, fun z => ⟨nuG_old (hL.2.1 z).1, (hL.2.1 z).2⟩, hL.2.2⟩
theorem add_lw {α' : AL} {ν' : Nat → Nat → Bool} {X' : XM} {i e : Nat} (hP : ADD α ν X i e α' ν' X') (hv : vk ν 1 i = true) (h0 : 0 ≤ X 1 i 2) : LW ν' X' i := by
  obtain ⟨-, rfl, -, h1, h2, h3, -⟩ := hP
  refine ⟨vk_up (fun a b z => nuG_old z) hv, fun _ => ⟨nuG_new ν (2, i), by rw [h2]; exact h3.1⟩, fun z => absurd z h1, by omega, h3.2⟩
/-- a group came, and the list i has it behind -/
def MK (α : AL) (ν : Nat → Nat → Bool) (X : XM) (G : Nat × Nat) (x : XM) (i e : Nat) (α' : AL) (ν' : Nat → Nat → Bool) (X' : XM) : Prop := ∃ α1, (∀ k j, gk k j ≠ G → α1 k j = α k j) ∧ ADD α1 (nuG ν G) (xG X G x) i e α' ν' X'
theorem tv_depth {f index : Nat} (n : Nat) (hT : TR g α ν X h) (hv : ν 16 f = true) (F4 : FL (mY M).cls index 4 0) (F6 : FL (mY M).cls index 6 0) (F7 : FL (mY M).cls index 7 0) (F8 : FL (mY M).cls index 8 0) (F11 : FL (mY M).cls index 11 0) (hd : decode (mC M) pc = .ok (.getfield index, 3)) (hn : pc + 3 = n) (kk : Ev g M d n ls (.int (J (X 16 f 0)) :: st) h mc ms Q) : Ev g M d pc ls (.ref (α 16 f) :: st) h mc ms Q := by
  have h1 := tr16 hT hv
  rw [show ck16 g α f (X 16 f) = fcell (X 16 f) from rfl] at h1
  unfold fcell at h1
  by_cases c0 : X 16 f 9 = 0
  · rw [if_pos c0] at h1; exact ev_getfield n 7 0 F7 h1 rfl hd hn kk
  · rw [if_neg c0] at h1
    by_cases c1 : X 16 f 9 = 1
    · rw [if_pos c1] at h1; exact ev_getfield n 11 0 F11 h1 rfl hd hn kk
    · rw [if_neg c1] at h1
      by_cases c2 : X 16 f 9 = 2
      · rw [if_pos c2] at h1; exact ev_getfield n 6 0 F6 h1 rfl hd hn kk
      · rw [if_neg c2] at h1
        by_cases c3 : X 16 f 9 = 3
        · rw [if_pos c3] at h1; exact ev_getfield n 4 0 F4 h1 rfl hd hn kk
        · rw [if_neg c3] at h1; exact ev_getfield n 8 0 F8 h1 rfl hd hn kk
/-- the greater of two -/
def mxI (a b : Int) : Int := if a < b then b else a
theorem mxI_ge (a b : Int) : a ≤ mxI a b ∧ b ≤ mxI a b ∧ (mxI a b = a ∨ mxI a b = b) := by
  unfold mxI
  by_cases c : a < b
  · rw [if_pos c]; omega
  · rw [if_neg c]; omega
end CM1
set_option maxRecDepth 100000 in
set_option maxHeartbeats 4000000 in
theorem c_X11_checkFormulaFits_ok {g : Gt} {α : AL} {ν : Nat → Nat → Bool} {X : XM} {h : AH} (hT : TR g α ν X h) (hW : WX ν X){a : Int} (ha : R31 a) (hn : nF X < 60 ∧ a ≤ 5) : Pr g M_X11_checkFormulaFits 8 [.ref (α 0 0), .int (J a)] h (none) := by
  refine pr_of rfl rfl (ls := [some (.ref (α 0 0)), some (.int (J a))]) rfl (Nat.le_of_ble_eq_true rfl) ?_
  show Ev g M_X11_checkFormulaFits 8 0 [some (.ref (α 0 0)), some (.int (J a))] [] h 0 0 (PQ (none) h)
  have q1 := wo_nC hW.1
  have q3 := wo_nS hW.1
  have qf := wo_nF hW.1
  refine ev_ald0 1 dX11_checkFormulaFits_0 rfl ?_
  refine ev_getfield 4 13 2 fl_X11_19_13 (tr0 hT) rfl dX11_checkFormulaFits_1 rfl ?_
  refine tc_V0 7 2 dX11_checkFormulaFits_4 lkv_X11_70 (tr1_2 hT) rfl rfl (by first | decide | omega) (Nat.le_of_ble_eq_true rfl) (z_F hT hW) ?_
  refine tj_bipush 9 dX11_checkFormulaFits_7 (by decide) rfl ?_
  refine tj_icmp_ge 17 12 dX11_checkFormulaFits_9 (by decide) rfl (by first | exact TR.rng hT _ _ _ | exact R31_of _ | exact bi_R _ | (constructor <;> omega)) (by first | exact TR.rng hT _ _ _ | exact R31_of _ | exact bi_R _ | (constructor <;> omega)) (fun c9 => ?_) (fun c9 => ?_)
  · exact False.elim (by omega)
  · skip
    refine ev_ild1 13 dX11_checkFormulaFits_12 rfl ?_
    refine tj_iconst 14 dX11_checkFormulaFits_13 rfl ?_
    refine tj_icmp_le 28 17 dX11_checkFormulaFits_14 (by decide) rfl (by first | exact TR.rng hT _ _ _ | exact R31_of _ | exact bi_R _ | (constructor <;> omega)) (by first | exact TR.rng hT _ _ _ | exact R31_of _ | exact bi_R _ | (constructor <;> omega)) (fun c14 => ?_) (fun c14 => ?_)
    · skip
      exact ev_vreturn ⟨rfl, rfl⟩ rfl dX11_checkFormulaFits_28
    · exact False.elim (by omega)
