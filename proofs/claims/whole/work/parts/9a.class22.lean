/-! THE CLASS MAKES: courses, students, rules, formulas -/
def AQ (g : Gt) (v : Option Value) (P : AL → (Nat → Nat → Bool) → XM → Prop) : RT → AH → Prop := fun r h' => r = .inl v ∧ ∃ α' ν' X', TR g α' ν' X' h' ∧ P α' ν' X'
/-- the memory's groups are those of the office -/
def NV (ν : Nat → Nat → Bool) (X : XM) : Prop := CLO ν X ∧ (∀ s : Nat, ν 4 s = true → (s : Int) < nS X ∨ s = 16) ∧ (∀ c : Nat, ν 12 c = true → (c : Int) < nC X) ∧ (∀ r : Nat, ν 14 r = true → (r : Int) < nR X) ∧ (∀ f : Nat, ν 16 f = true → (f : Int) < nF X) ∧ ∀ i, ν 2 i = true → 1 ≤ X 2 i 0
section CM1
variable {g : Gt} {α : AL} {ν : Nat → Nat → Bool} {X : XM} {M : Mt} {d pc : Nat} {ls : List (Option Value)} {st : List Value} {h : AH} {mc ms : Nat} {Q : RT → AH → Prop}
theorem al_of {av : List Value} {v : Option Value} {P : AL → (Nat → Nat → Bool) → XM → Prop} (hp : plainName (mY M).cls = true) (hh : mH M = []) (hls : entL (mL M) av = ls) (hlen : (lg_sl av).length ≤ mL M) (k : Ev g M d 0 ls [] h mc ms (AQ g v P)) : Al g M d av h mc ms v P := ct_of_ev hp hh hls hlen k
theorem nv_12 (h : NV ν X) {n : Nat} (hn : nC X = (n : Int)) : ν 12 n = false := by
  cases e : ν 12 n with
  | false => rfl
  | true => have := h.2.2.1 n e; omega
theorem nv_4 (h : NV ν X) {n : Nat} (hn : nS X = (n : Int)) (hl : n < 16) : ν 4 n = false := by
  cases e : ν 4 n with
  | false => rfl
  | true => have := h.2.1 n e; omega
theorem nv_14 (h : NV ν X) {n : Nat} (hn : nR X = (n : Int)) : ν 14 n = false := by
  cases e : ν 14 n with
  | false => rfl
  | true => have := h.2.2.2.1 n e; omega
theorem nv_16 (h : NV ν X) {n : Nat} (hn : nF X = (n : Int)) : ν 16 n = false := by
  cases e : ν 16 n with
  | false => rfl
  | true => have := h.2.2.2.2.1 n e; omega
theorem gk_ne {k i a b : Nat} (h : (gk k i).1 ≠ a) : gk k i ≠ (a, b) := fun e => h (by rw [e])
theorem gk_21 (i : Nat) : (gk 2 i).1 = 2 := rfl
/-- a group that comes keeps the rest closed -/
theorem clo_grow {G : Nat × Nat} {x : XM} (hC : CLO ν X) (hG : G.1 ≠ 2) (hs : G.1 = 4 → G.2 < 17) (hx : ∀ i, gk 1 i = G → x 1 i 1 = 0) : CLO (nuG ν G) (xG X G x) := by
  obtain ⟨h0, h1, h2, h3, h4⟩ := hC
  refine ⟨nuG_old h0, nuG_old h1, fun s e => ?_, fun i hv hn => ?_, fun i j hv hn => ?_⟩
  · unfold nuG at e
    rcases Bool.or_eq_true _ _ ▸ e with e | e
    · exact h2 s e
    · have := of_decide_eq_true e
      rw [this.2]
      exact hs this.1.symm
  · by_cases n : gk 1 i = G
    · rw [xG_eq n, hx i n] at hn
      exact absurd rfl hn
    · rw [xG_ne n] at hn
      rw [vk_nuG n] at hv
      exact nuG_old (h3 i hv hn)
  · have n : gk 2 i ≠ G := fun e => hG (by rw [← e]; rfl)
    rw [xG_ne n] at hn ⊢
    have hv2 : ν 2 i = true := by
      rw [nuG_ne (fun e => hG (by rw [← e]))] at hv
      exact hv
    exact vk_up (fun a b z => nuG_old z) (h4 i j hv2 hn)
theorem lw_grow {G : Nat × Nat} {x : XM} {i : Nat} (hL : LW ν X i) (hG : G.1 ≠ 2) (hn : gk 1 i ≠ G) : LW (nuG ν G) (xG X G x) i := by
  have n : gk 2 i ≠ G := fun e => hG (by rw [← e]; rfl)
  unfold LW
  rw [xG_ne n, xG_ne hn]
  exact ⟨vk_up (fun a b z => nuG_old z) hL.1, fun z => ⟨nuG_old (hL.2.1 z).1, (hL.2.1 z).2⟩, hL.2.2⟩
theorem add_lw {α' : AL} {ν' : Nat → Nat → Bool} {X' : XM} {i e : Nat} (hP : ADD α ν X i e α' ν' X') (hv : vk ν 1 i = true) (h0 : 0 ≤ X 1 i 2) : LW ν' X' i := by
  obtain ⟨-, rfl, -, h1, h2, h3, -⟩ := hP
  refine ⟨vk_up (fun a b z => nuG_old z) hv, fun _ => ⟨nuG_new ν (2, i), by rw [h2]; exact h3.1⟩, fun z => absurd z h1, by omega, h3.2⟩
/-- a group came, and the list i has it behind -/
def MK (α : AL) (ν : Nat → Nat → Bool) (X : XM) (G : Nat × Nat) (x : XM) (i e : Nat) (α' : AL) (ν' : Nat → Nat → Bool) (X' : XM) : Prop := ∃ α1, (∀ k j, gk k j ≠ G → α1 k j = α k j) ∧ ADD α1 (nuG ν G) (xG X G x) i e α' ν' X'
theorem tv_depth {f index : Nat} (n : Nat) (hT : TR g α ν X h) (hv : ν 16 f = true) (F4 : FL (mY M).cls index 4 0) (F6 : FL (mY M).cls index 6 0) (F7 : FL (mY M).cls index 7 0) (F8 : FL (mY M).cls index 8 0) (F11 : FL (mY M).cls index 11 0) (hd : decode (mC M) pc = .ok (.getfield index, 3)) (hn : pc + 3 = n) (kk : Ev g M d n ls (.int (J (X 16 f 0)) :: st) h mc ms Q) : Ev g M d pc ls (.ref (α 16 f) :: st) h mc ms Q := by
  have h1 := tr16 hT hv
  rw [show ck16 g α f (X 16 f) = fcell (X 16 f) from rfl] at h1
  unfold fcell at h1
  by_cases c0 : X 16 f 9 = 0
  · rw [if_pos c0] at h1; exact ev_getfield n 7 0 F7 h1 rfl hd hn kk
  · rw [if_neg c0] at h1
    by_cases c1 : X 16 f 9 = 1
    · rw [if_pos c1] at h1; exact ev_getfield n 11 0 F11 h1 rfl hd hn kk
    · rw [if_neg c1] at h1
      by_cases c2 : X 16 f 9 = 2
      · rw [if_pos c2] at h1; exact ev_getfield n 6 0 F6 h1 rfl hd hn kk
      · rw [if_neg c2] at h1
        by_cases c3 : X 16 f 9 = 3
        · rw [if_pos c3] at h1; exact ev_getfield n 4 0 F4 h1 rfl hd hn kk
        · rw [if_neg c3] at h1; exact ev_getfield n 8 0 F8 h1 rfl hd hn kk
/-- the greater of two -/
def mxI (a b : Int) : Int := if a < b then b else a
theorem mxI_ge (a b : Int) : a ≤ mxI a b ∧ b ≤ mxI a b ∧ (mxI a b = a ∨ mxI a b = b) := by
  unfold mxI
  by_cases c : a < b
  · rw [if_pos c]; omega
  · rw [if_neg c]; omega
theorem nv_cap (h : NV ν X) (hL : ∀ i : Nat, X 1 i 1 ≠ 0 → ν 2 i = true → 1 ≤ X 2 i 0) : True := trivial
end CM1
set_option maxRecDepth 100000 in
set_option maxHeartbeats 4000000 in
theorem c_X11_checkFormulaFits_ok {g : Gt} {α : AL} {ν : Nat → Nat → Bool} {X : XM} {h : AH} (hT : TR g α ν X h) (hW : WX ν X){a : Int} (ha : R31 a) (hn : nF X < 60 ∧ a ≤ 5) : Pr g M_X11_checkFormulaFits 8 [.ref (α 0 0), .int (J a)] h (none) := by
  refine pr_of rfl rfl (ls := [some (.ref (α 0 0)), some (.int (J a))]) rfl (Nat.le_of_ble_eq_true rfl) ?_
  show Ev g M_X11_checkFormulaFits 8 0 [some (.ref (α 0 0)), some (.int (J a))] [] h 0 0 (PQ (none) h)
  have q1 := wo_nC hW.1
  have q3 := wo_nS hW.1
  have qf := wo_nF hW.1
  refine ev_ald0 1 dX11_checkFormulaFits_0 rfl ?_
  refine ev_getfield 4 13 2 fl_X11_19_13 (tr0 hT) rfl dX11_checkFormulaFits_1 rfl ?_
  refine tc_V0 7 2 dX11_checkFormulaFits_4 lkv_X11_70 (tr1_2 hT) rfl rfl (by first | decide | omega) (Nat.le_of_ble_eq_true rfl) (z_F hT hW) ?_
  refine tj_bipush 9 dX11_checkFormulaFits_7 (by decide) rfl ?_
  refine tj_icmp_ge 17 12 dX11_checkFormulaFits_9 (by decide) rfl (by first | exact TR.rng hT _ _ _ | exact R31_of _ | exact bi_R _ | (constructor <;> omega)) (by first | exact TR.rng hT _ _ _ | exact R31_of _ | exact bi_R _ | (constructor <;> omega)) (fun c9 => ?_) (fun c9 => ?_)
  · exact False.elim (by omega)
  · skip
    refine ev_ild1 13 dX11_checkFormulaFits_12 rfl ?_
    refine tj_iconst 14 dX11_checkFormulaFits_13 rfl ?_
    refine tj_icmp_le 28 17 dX11_checkFormulaFits_14 (by decide) rfl (by first | exact TR.rng hT _ _ _ | exact R31_of _ | exact bi_R _ | (constructor <;> omega)) (by first | exact TR.rng hT _ _ _ | exact R31_of _ | exact bi_R _ | (constructor <;> omega)) (fun c14 => ?_) (fun c14 => ?_)
    · skip
      exact ev_vreturn ⟨rfl, rfl⟩ rfl dX11_checkFormulaFits_28
    · exact False.elim (by omega)
set_option maxRecDepth 100000 in
set_option maxHeartbeats 4000000 in
theorem c_X11_checkFormulaFits_no {g : Gt} {α : AL} {ν : Nat → Nat → Bool} {X : XM} {h : AH} (hT : TR g α ν X h) (hW : WX ν X){a : Int} (ha : R31 a) (hn : ¬ (nF X < 60 ∧ a ≤ 5)) : Th g M_X11_checkFormulaFits 8 [.ref (α 0 0), .int (J a)] h "java/lang/IllegalStateException" := by
  refine th_of rfl rfl (ls := [some (.ref (α 0 0)), some (.int (J a))]) rfl (Nat.le_of_ble_eq_true rfl) ?_
  show Ev g M_X11_checkFormulaFits 8 0 [some (.ref (α 0 0)), some (.int (J a))] [] h 1 6 (TQ "java/lang/IllegalStateException" h)
  have q1 := wo_nC hW.1
  have q3 := wo_nS hW.1
  have qf := wo_nF hW.1
  refine ev_ald0 1 dX11_checkFormulaFits_0 rfl ?_
  refine ev_getfield 4 13 2 fl_X11_19_13 (tr0 hT) rfl dX11_checkFormulaFits_1 rfl ?_
  refine tc_V0 7 2 dX11_checkFormulaFits_4 lkv_X11_70 (tr1_2 hT) rfl rfl (by first | decide | omega) (Nat.le_of_ble_eq_true rfl) (z_F hT hW) ?_
  refine tj_bipush 9 dX11_checkFormulaFits_7 (by decide) rfl ?_
  refine tj_icmp_ge 17 12 dX11_checkFormulaFits_9 (by decide) rfl (by first | exact TR.rng hT _ _ _ | exact R31_of _ | exact bi_R _ | (constructor <;> omega)) (by first | exact TR.rng hT _ _ _ | exact R31_of _ | exact bi_R _ | (constructor <;> omega)) (fun c9 => ?_) (fun c9 => ?_)
  · skip
    exact ev_throwSW th_X11_74_408_78 rfl ⟨rfl, rfl⟩ (by decide) (by decide) dX11_checkFormulaFits_17 dX11_checkFormulaFits_20 dX11_checkFormulaFits_21 dX11_checkFormulaFits_24 dX11_checkFormulaFits_27 (by decide) (by decide)
  · skip
    refine ev_ild1 13 dX11_checkFormulaFits_12 rfl ?_
    refine tj_iconst 14 dX11_checkFormulaFits_13 rfl ?_
    refine tj_icmp_le 28 17 dX11_checkFormulaFits_14 (by decide) rfl (by first | exact TR.rng hT _ _ _ | exact R31_of _ | exact bi_R _ | (constructor <;> omega)) (by first | exact TR.rng hT _ _ _ | exact R31_of _ | exact bi_R _ | (constructor <;> omega)) (fun c14 => ?_) (fun c14 => ?_)
    · exact False.elim (by omega)
    · skip
      exact ev_throwSW th_X11_74_408_78 rfl ⟨rfl, rfl⟩ (by decide) (by decide) dX11_checkFormulaFits_17 dX11_checkFormulaFits_20 dX11_checkFormulaFits_21 dX11_checkFormulaFits_24 dX11_checkFormulaFits_27 (by decide) (by decide)
set_option maxRecDepth 100000 in
set_option maxHeartbeats 4000000 in
theorem c_X11_addCourse_x1 {g : Gt} {α : AL} {ν : Nat → Nat → Bool} {X : XM} {h : AH} (hT : TR g α ν X h) (hW : WX ν X) {a0 : Int} (ha0 : R31 a0) {a1 : Int} (ha1 : R31 a1) (hm : ¬ (1 ≤ a0 ∧ a0 ≤ 6) ∨ ¬ (1 ≤ a1 ∧ a1 ≤ 12)) : Th g M_X11_addCourse 28 [.ref (α 0 0), .int (J a0), .int (J a1)] h "java/lang/IllegalArgumentException" := by
  refine th_of rfl rfl (ls := [some (.ref (α 0 0)), some (.int (J a0)), some (.int (J a1))]) rfl (Nat.le_of_ble_eq_true rfl) ?_
  show Ev g M_X11_addCourse 28 0 [some (.ref (α 0 0)), some (.int (J a0)), some (.int (J a1))] [] h 1 6 (TQ "java/lang/IllegalArgumentException" h)
  have q1 := wo_nC hW.1
  have q3 := wo_nS hW.1
  have qf := wo_nF hW.1
  have qr := wo_nR hW.1
  refine ev_ild1 1 dX11_addCourse_0 rfl ?_
  refine tj_iconst 2 dX11_addCourse_1 rfl ?_
  refine tj_bipush 4 dX11_addCourse_2 (by decide) rfl ?_
  refine tc_S3 7 dX11_addCourse_4 lks_X11_59 rfl (by first | decide | omega) (Nat.le_of_ble_eq_true rfl) (c_X11_isWithin (by first | exact TR.rng hT _ _ _ | exact R31_of _ | exact bi_R _ | (constructor <;> omega)) (by first | exact TR.rng hT _ _ _ | exact R31_of _ | exact bi_R _ | (constructor <;> omega)) (by first | exact TR.rng hT _ _ _ | exact R31_of _ | exact bi_R _ | (constructor <;> omega))) ?_
  refine tb_if_eq 20 10 dX11_addCourse_7 (by decide) rfl (fun c7 => ?_) (fun c7 => ?_)
  · skip
    exact ev_throwS th_X11_63_65_67 rfl ⟨rfl, rfl⟩ (by decide) (by decide) dX11_addCourse_20 dX11_addCourse_23 dX11_addCourse_24 dX11_addCourse_26 dX11_addCourse_29 (by decide) (by decide)
  · skip
    refine ev_ild2 11 dX11_addCourse_10 rfl ?_
    refine tj_iconst 12 dX11_addCourse_11 rfl ?_
    refine tj_bipush 14 dX11_addCourse_12 (by decide) rfl ?_
    refine tc_S3 17 dX11_addCourse_14 lks_X11_59 rfl (by first | decide | omega) (Nat.le_of_ble_eq_true rfl) (c_X11_isWithin (by first | exact TR.rng hT _ _ _ | exact R31_of _ | exact bi_R _ | (constructor <;> omega)) (by first | exact TR.rng hT _ _ _ | exact R31_of _ | exact bi_R _ | (constructor <;> omega)) (by first | exact TR.rng hT _ _ _ | exact R31_of _ | exact bi_R _ | (constructor <;> omega))) ?_
    refine tb_if_ne 30 20 dX11_addCourse_17 (by decide) rfl (fun c17 => ?_) (fun c17 => ?_)
    · exact False.elim (hm.elim (fun q => q (of_decide_eq_true c7)) (fun q => q (of_decide_eq_true c17)))
    · skip
      exact ev_throwS th_X11_63_65_67 rfl ⟨rfl, rfl⟩ (by decide) (by decide) dX11_addCourse_20 dX11_addCourse_23 dX11_addCourse_24 dX11_addCourse_26 dX11_addCourse_29 (by decide) (by decide)
set_option maxRecDepth 100000 in
set_option maxHeartbeats 4000000 in
theorem c_X11_addCourse_x2 {g : Gt} {α : AL} {ν : Nat → Nat → Bool} {X : XM} {h : AH} (hT : TR g α ν X h) (hW : WX ν X) {a0 : Int} (ha0 : R31 a0) {a1 : Int} (ha1 : R31 a1) (h0 : 1 ≤ a0 ∧ a0 ≤ 6) (h1 : 1 ≤ a1 ∧ a1 ≤ 12) (hm : ¬ nC X < 20) : Th g M_X11_addCourse 28 [.ref (α 0 0), .int (J a0), .int (J a1)] h "java/lang/IllegalStateException" := by
  refine th_of rfl rfl (ls := [some (.ref (α 0 0)), some (.int (J a0)), some (.int (J a1))]) rfl (Nat.le_of_ble_eq_true rfl) ?_
  show Ev g M_X11_addCourse 28 0 [some (.ref (α 0 0)), some (.int (J a0)), some (.int (J a1))] [] h 1 6 (TQ "java/lang/IllegalStateException" h)
  have q1 := wo_nC hW.1
  have q3 := wo_nS hW.1
  have qf := wo_nF hW.1
  have qr := wo_nR hW.1
  refine ev_ild1 1 dX11_addCourse_0 rfl ?_
  refine tj_iconst 2 dX11_addCourse_1 rfl ?_
  refine tj_bipush 4 dX11_addCourse_2 (by decide) rfl ?_
  refine tc_S3 7 dX11_addCourse_4 lks_X11_59 rfl (by first | decide | omega) (Nat.le_of_ble_eq_true rfl) (c_X11_isWithin (by first | exact TR.rng hT _ _ _ | exact R31_of _ | exact bi_R _ | (constructor <;> omega)) (by first | exact TR.rng hT _ _ _ | exact R31_of _ | exact bi_R _ | (constructor <;> omega)) (by first | exact TR.rng hT _ _ _ | exact R31_of _ | exact bi_R _ | (constructor <;> omega))) ?_
  refine tb_if_eq 20 10 dX11_addCourse_7 (by decide) rfl (fun c7 => ?_) (fun c7 => ?_)
  · exact False.elim ((of_decide_eq_false c7) h0)
  · skip
    refine ev_ild2 11 dX11_addCourse_10 rfl ?_
    refine tj_iconst 12 dX11_addCourse_11 rfl ?_
    refine tj_bipush 14 dX11_addCourse_12 (by decide) rfl ?_
    refine tc_S3 17 dX11_addCourse_14 lks_X11_59 rfl (by first | decide | omega) (Nat.le_of_ble_eq_true rfl) (c_X11_isWithin (by first | exact TR.rng hT _ _ _ | exact R31_of _ | exact bi_R _ | (constructor <;> omega)) (by first | exact TR.rng hT _ _ _ | exact R31_of _ | exact bi_R _ | (constructor <;> omega)) (by first | exact TR.rng hT _ _ _ | exact R31_of _ | exact bi_R _ | (constructor <;> omega))) ?_
    refine tb_if_ne 30 20 dX11_addCourse_17 (by decide) rfl (fun c17 => ?_) (fun c17 => ?_)
    · skip
      refine ev_ald0 31 dX11_addCourse_30 rfl ?_
      refine ev_getfield 34 13 0 fl_X11_12_13 (tr0 hT) rfl dX11_addCourse_31 rfl ?_
      refine tc_V0 37 2 dX11_addCourse_34 lkv_X11_70 (tr1_0 hT) rfl rfl (by first | decide | omega) (Nat.le_of_ble_eq_true rfl) (z_C hT hW) ?_
      refine tj_bipush 39 dX11_addCourse_37 (by decide) rfl ?_
      refine tj_icmp_lt 52 42 dX11_addCourse_39 (by decide) rfl (by first | exact TR.rng hT _ _ _ | exact R31_of _ | exact bi_R _ | (constructor <;> omega)) (by first | exact TR.rng hT _ _ _ | exact R31_of _ | exact bi_R _ | (constructor <;> omega)) (fun c39 => ?_) (fun c39 => ?_)
      · exact False.elim (by omega)
      · skip
        exact ev_throwS th_X11_74_76_78 rfl ⟨rfl, rfl⟩ (by decide) (by decide) dX11_addCourse_42 dX11_addCourse_45 dX11_addCourse_46 dX11_addCourse_48 dX11_addCourse_51 (by decide) (by decide)
    · exact False.elim ((of_decide_eq_false c17) h1)
set_option maxRecDepth 100000 in
set_option maxHeartbeats 4000000 in
theorem c_X11_addStudent_x1 {g : Gt} {α : AL} {ν : Nat → Nat → Bool} {X : XM} {h : AH} (hT : TR g α ν X h) (hW : WX ν X) {a0 : Int} (ha0 : R31 a0) (hm : ¬ (0 ≤ a0 ∧ a0 ≤ 3)) : Th g M_X11_addStudent 28 [.ref (α 0 0), .int (J a0)] h "java/lang/IllegalArgumentException" := by
  refine th_of rfl rfl (ls := [some (.ref (α 0 0)), some (.int (J a0))]) rfl (Nat.le_of_ble_eq_true rfl) ?_
  show Ev g M_X11_addStudent 28 0 [some (.ref (α 0 0)), some (.int (J a0))] [] h 1 6 (TQ "java/lang/IllegalArgumentException" h)
  have q1 := wo_nC hW.1
  have q3 := wo_nS hW.1
  have qf := wo_nF hW.1
  have qr := wo_nR hW.1
  refine ev_ild1 1 dX11_addStudent_0 rfl ?_
  exact tx_S1 4 dX11_addStudent_1 lks_X11_88 rfl (by first | decide | omega) (Nat.le_of_ble_eq_true rfl) rfl (by decide) (by decide) (c_X11_checkMajor_no ha0 hm) ⟨rfl, rfl⟩
set_option maxRecDepth 100000 in
set_option maxHeartbeats 4000000 in
theorem c_X11_addStudent_x2 {g : Gt} {α : AL} {ν : Nat → Nat → Bool} {X : XM} {h : AH} (hT : TR g α ν X h) (hW : WX ν X) {a0 : Int} (ha0 : R31 a0) (h0 : 0 ≤ a0 ∧ a0 ≤ 3) (hm : ¬ nS X < 16) : Th g M_X11_addStudent 28 [.ref (α 0 0), .int (J a0)] h "java/lang/IllegalStateException" := by
  refine th_of rfl rfl (ls := [some (.ref (α 0 0)), some (.int (J a0))]) rfl (Nat.le_of_ble_eq_true rfl) ?_
  show Ev g M_X11_addStudent 28 0 [some (.ref (α 0 0)), some (.int (J a0))] [] h 1 6 (TQ "java/lang/IllegalStateException" h)
  have q1 := wo_nC hW.1
  have q3 := wo_nS hW.1
  have qf := wo_nF hW.1
  have qr := wo_nR hW.1
  refine ev_ild1 1 dX11_addStudent_0 rfl ?_
  refine tcv_S1 4 dX11_addStudent_1 lks_X11_88 rfl (by first | decide | omega) (Nat.le_of_ble_eq_true rfl) (c_X11_checkMajor_ok (by first | exact TR.rng hT _ _ _ | exact R31_of _ | exact bi_R _ | (constructor <;> omega)) (by omega)) ?_
  refine ev_ald0 5 dX11_addStudent_4 rfl ?_
  refine ev_getfield 8 13 1 fl_X11_16_13 (tr0 hT) rfl dX11_addStudent_5 rfl ?_
  refine tc_V0 11 2 dX11_addStudent_8 lkv_X11_70 (tr1_1 hT) rfl rfl (by first | decide | omega) (Nat.le_of_ble_eq_true rfl) (z_S hT hW) ?_
  refine tj_bipush 13 dX11_addStudent_11 (by decide) rfl ?_
  refine tj_icmp_lt 26 16 dX11_addStudent_13 (by decide) rfl (by first | exact TR.rng hT _ _ _ | exact R31_of _ | exact bi_R _ | (constructor <;> omega)) (by first | exact TR.rng hT _ _ _ | exact R31_of _ | exact bi_R _ | (constructor <;> omega)) (fun c13 => ?_) (fun c13 => ?_)
  · exact False.elim (by omega)
  · skip
    exact ev_throwS th_X11_74_91_78 rfl ⟨rfl, rfl⟩ (by decide) (by decide) dX11_addStudent_16 dX11_addStudent_19 dX11_addStudent_20 dX11_addStudent_22 dX11_addStudent_25 (by decide) (by decide)
set_option maxRecDepth 100000 in
set_option maxHeartbeats 4000000 in
theorem c_X11_addRule_x1a {g : Gt} {α : AL} {ν : Nat → Nat → Bool} {X : XM} {h : AH} (hT : TR g α ν X h) (hW : WX ν X) {a0 : Int} (ha0 : R31 a0) {a1 : Int} (ha1 : R31 a1) {a2 : Int} (ha2 : R31 a2) (hm : ¬ (0 ≤ a0 ∧ a0 ≤ 3)) : Th g M_X11_addRule 28 [.ref (α 0 0), .int (J a0), .int (J a1), .int (J a2)] h "java/lang/IllegalArgumentException" := by
  refine th_of rfl rfl (ls := [some (.ref (α 0 0)), some (.int (J a0)), some (.int (J a1)), some (.int (J a2))]) rfl (Nat.le_of_ble_eq_true rfl) ?_
  show Ev g M_X11_addRule 28 0 [some (.ref (α 0 0)), some (.int (J a0)), some (.int (J a1)), some (.int (J a2))] [] h 1 6 (TQ "java/lang/IllegalArgumentException" h)
  have q1 := wo_nC hW.1
  have q3 := wo_nS hW.1
  have qf := wo_nF hW.1
  have qr := wo_nR hW.1
  refine ev_ild1 1 dX11_addRule_0 rfl ?_
  exact tx_S1 4 dX11_addRule_1 lks_X11_88 rfl (by first | decide | omega) (Nat.le_of_ble_eq_true rfl) rfl (by decide) (by decide) (c_X11_checkMajor_no ha0 hm) ⟨rfl, rfl⟩
set_option maxRecDepth 100000 in
set_option maxHeartbeats 4000000 in
theorem c_X11_addRule_x1b {g : Gt} {α : AL} {ν : Nat → Nat → Bool} {X : XM} {h : AH} (hT : TR g α ν X h) (hW : WX ν X) {a0 : Int} (ha0 : R31 a0) {a1 : Int} (ha1 : R31 a1) {a2 : Int} (ha2 : R31 a2) (h0 : 0 ≤ a0 ∧ a0 ≤ 3) (hm : ¬ (0 ≤ a2 ∧ a2 ≤ 100)) : Th g M_X11_addRule 28 [.ref (α 0 0), .int (J a0), .int (J a1), .int (J a2)] h "java/lang/IllegalArgumentException" := by
  refine th_of rfl rfl (ls := [some (.ref (α 0 0)), some (.int (J a0)), some (.int (J a1)), some (.int (J a2))]) rfl (Nat.le_of_ble_eq_true rfl) ?_
  show Ev g M_X11_addRule 28 0 [some (.ref (α 0 0)), some (.int (J a0)), some (.int (J a1)), some (.int (J a2))] [] h 1 6 (TQ "java/lang/IllegalArgumentException" h)
  have q1 := wo_nC hW.1
  have q3 := wo_nS hW.1
  have qf := wo_nF hW.1
  have qr := wo_nR hW.1
  refine ev_ild1 1 dX11_addRule_0 rfl ?_
  refine tcv_S1 4 dX11_addRule_1 lks_X11_88 rfl (by first | decide | omega) (Nat.le_of_ble_eq_true rfl) (c_X11_checkMajor_ok (by first | exact TR.rng hT _ _ _ | exact R31_of _ | exact bi_R _ | (constructor <;> omega)) (by omega)) ?_
  refine ev_ild3 5 dX11_addRule_4 rfl ?_
  exact tx_S1 8 dX11_addRule_5 lks_X11_121 rfl (by first | decide | omega) (Nat.le_of_ble_eq_true rfl) rfl (by decide) (by decide) (c_X11_checkMark_no ha2 hm) ⟨rfl, rfl⟩
set_option maxRecDepth 100000 in
set_option maxHeartbeats 4000000 in
theorem c_X11_addRule_x1c {g : Gt} {α : AL} {ν : Nat → Nat → Bool} {X : XM} {h : AH} (hT : TR g α ν X h) (hW : WX ν X) {a0 : Int} (ha0 : R31 a0) {a1 : Int} (ha1 : R31 a1) {a2 : Int} (ha2 : R31 a2) (h0 : 0 ≤ a0 ∧ a0 ≤ 3) (h2 : 0 ≤ a2 ∧ a2 ≤ 100) (hm : ¬ (1 ≤ a1 ∧ a1 ≤ 3)) : Th g M_X11_addRule 28 [.ref (α 0 0), .int (J a0), .int (J a1), .int (J a2)] h "java/lang/IllegalArgumentException" := by
  refine th_of rfl rfl (ls := [some (.ref (α 0 0)), some (.int (J a0)), some (.int (J a1)), some (.int (J a2))]) rfl (Nat.le_of_ble_eq_true rfl) ?_
  show Ev g M_X11_addRule 28 0 [some (.ref (α 0 0)), some (.int (J a0)), some (.int (J a1)), some (.int (J a2))] [] h 1 6 (TQ "java/lang/IllegalArgumentException" h)
  have q1 := wo_nC hW.1
  have q3 := wo_nS hW.1
  have qf := wo_nF hW.1
  have qr := wo_nR hW.1
  refine ev_ild1 1 dX11_addRule_0 rfl ?_
  refine tcv_S1 4 dX11_addRule_1 lks_X11_88 rfl (by first | decide | omega) (Nat.le_of_ble_eq_true rfl) (c_X11_checkMajor_ok (by first | exact TR.rng hT _ _ _ | exact R31_of _ | exact bi_R _ | (constructor <;> omega)) (by omega)) ?_
  refine ev_ild3 5 dX11_addRule_4 rfl ?_
  refine tcv_S1 8 dX11_addRule_5 lks_X11_121 rfl (by first | decide | omega) (Nat.le_of_ble_eq_true rfl) (c_X11_checkMark_ok (by first | exact TR.rng hT _ _ _ | exact R31_of _ | exact bi_R _ | (constructor <;> omega)) (by omega)) ?_
  refine ev_ild2 9 dX11_addRule_8 rfl ?_
  refine tj_iconst 10 dX11_addRule_9 rfl ?_
  refine tj_iconst 11 dX11_addRule_10 rfl ?_
  refine tc_S3 14 dX11_addRule_11 lks_X11_59 rfl (by first | decide | omega) (Nat.le_of_ble_eq_true rfl) (c_X11_isWithin (by first | exact TR.rng hT _ _ _ | exact R31_of _ | exact bi_R _ | (constructor <;> omega)) (by first | exact TR.rng hT _ _ _ | exact R31_of _ | exact bi_R _ | (constructor <;> omega)) (by first | exact TR.rng hT _ _ _ | exact R31_of _ | exact bi_R _ | (constructor <;> omega))) ?_
  refine tb_if_ne 28 17 dX11_addRule_14 (by decide) rfl (fun c14 => ?_) (fun c14 => ?_)
  · exact False.elim (hm (of_decide_eq_true c14))
  · skip
    exact ev_throwSW th_X11_63_346_67 rfl ⟨rfl, rfl⟩ (by decide) (by decide) dX11_addRule_17 dX11_addRule_20 dX11_addRule_21 dX11_addRule_24 dX11_addRule_27 (by decide) (by decide)
set_option maxRecDepth 100000 in
set_option maxHeartbeats 4000000 in
theorem c_X11_addRule_x2 {g : Gt} {α : AL} {ν : Nat → Nat → Bool} {X : XM} {h : AH} (hT : TR g α ν X h) (hW : WX ν X) {a0 : Int} (ha0 : R31 a0) {a1 : Int} (ha1 : R31 a1) {a2 : Int} (ha2 : R31 a2) (h0 : 0 ≤ a0 ∧ a0 ≤ 3) (h2 : 0 ≤ a2 ∧ a2 ≤ 100) (h1 : 1 ≤ a1 ∧ a1 ≤ 3) (hm : ¬ cnt (fun r => decide (X 14 r 0 = a0)) (nR X).toNat < 4) : Th g M_X11_addRule 28 [.ref (α 0 0), .int (J a0), .int (J a1), .int (J a2)] h "java/lang/IllegalStateException" := by
  refine th_of rfl rfl (ls := [some (.ref (α 0 0)), some (.int (J a0)), some (.int (J a1)), some (.int (J a2))]) rfl (Nat.le_of_ble_eq_true rfl) ?_
  show Ev g M_X11_addRule 28 0 [some (.ref (α 0 0)), some (.int (J a0)), some (.int (J a1)), some (.int (J a2))] [] h 1 6 (TQ "java/lang/IllegalStateException" h)
  have q1 := wo_nC hW.1
  have q3 := wo_nS hW.1
  have qf := wo_nF hW.1
  have qr := wo_nR hW.1
  have q2 := cnt_0 (fun r => decide (X 14 r 0 = a0)) (nR X).toNat
  have q3 := wo_rm4 hW.1 a0
  refine ev_ild1 1 dX11_addRule_0 rfl ?_
  refine tcv_S1 4 dX11_addRule_1 lks_X11_88 rfl (by first | decide | omega) (Nat.le_of_ble_eq_true rfl) (c_X11_checkMajor_ok (by first | exact TR.rng hT _ _ _ | exact R31_of _ | exact bi_R _ | (constructor <;> omega)) (by omega)) ?_
  refine ev_ild3 5 dX11_addRule_4 rfl ?_
  refine tcv_S1 8 dX11_addRule_5 lks_X11_121 rfl (by first | decide | omega) (Nat.le_of_ble_eq_true rfl) (c_X11_checkMark_ok (by first | exact TR.rng hT _ _ _ | exact R31_of _ | exact bi_R _ | (constructor <;> omega)) (by omega)) ?_
  refine ev_ild2 9 dX11_addRule_8 rfl ?_
  refine tj_iconst 10 dX11_addRule_9 rfl ?_
  refine tj_iconst 11 dX11_addRule_10 rfl ?_
  refine tc_S3 14 dX11_addRule_11 lks_X11_59 rfl (by first | decide | omega) (Nat.le_of_ble_eq_true rfl) (c_X11_isWithin (by first | exact TR.rng hT _ _ _ | exact R31_of _ | exact bi_R _ | (constructor <;> omega)) (by first | exact TR.rng hT _ _ _ | exact R31_of _ | exact bi_R _ | (constructor <;> omega)) (by first | exact TR.rng hT _ _ _ | exact R31_of _ | exact bi_R _ | (constructor <;> omega))) ?_
  refine tb_if_ne 28 17 dX11_addRule_14 (by decide) rfl (fun c14 => ?_) (fun c14 => ?_)
  · skip
    refine ev_ald0 29 dX11_addRule_28 rfl ?_
    refine ev_ild1 30 dX11_addRule_29 rfl ?_
    refine tc_V1 33 13 dX11_addRule_30 lkv_X11_348 (tr0 hT) rfl rfl (by first | decide | omega) (Nat.le_of_ble_eq_true rfl) (c_X11_rulesOf hT hW (by first | exact TR.rng hT _ _ _ | exact R31_of _ | exact bi_R _ | (constructor <;> omega))) ?_
    refine tj_iconst 34 dX11_addRule_33 rfl ?_
    refine tj_icmp_lt 48 37 dX11_addRule_34 (by decide) rfl (by first | exact TR.rng hT _ _ _ | exact R31_of _ | exact bi_R _ | (constructor <;> omega)) (by first | exact TR.rng hT _ _ _ | exact R31_of _ | exact bi_R _ | (constructor <;> omega)) (fun c34 => ?_) (fun c34 => ?_)
    · exact False.elim (by omega)
    · skip
      exact ev_throwSW th_X11_74_351_78 rfl ⟨rfl, rfl⟩ (by decide) (by decide) dX11_addRule_37 dX11_addRule_40 dX11_addRule_41 dX11_addRule_44 dX11_addRule_47 (by decide) (by decide)
  · exact False.elim ((of_decide_eq_false c14) h1)
set_option maxRecDepth 100000 in
set_option maxHeartbeats 4000000 in
theorem c_X11_markFormula_b1 {g : Gt} {α : AL} {ν : Nat → Nat → Bool} {X : XM} {h : AH} (hT : TR g α ν X h) (hW : WX ν X) {b : Int} (hb : R31 b) (hn : ¬ (0 ≤ b ∧ b < nC X)) {a1 : Int} (ha1 : R31 a1) : Th g M_X11_markFormula 28 [.ref (α 0 0), .int (J b), .int (J a1)] h "java/lang/IndexOutOfBoundsException" := by
  refine th_of rfl rfl (ls := [some (.ref (α 0 0)), some (.int (J b)), some (.int (J a1))]) rfl (Nat.le_of_ble_eq_true rfl) ?_
  show Ev g M_X11_markFormula 28 0 [some (.ref (α 0 0)), some (.int (J b)), some (.int (J a1))] [] h 1 6 (TQ "java/lang/IndexOutOfBoundsException" h)
  have q1 := wo_nC hW.1
  have q3 := wo_nS hW.1
  have qf := wo_nF hW.1
  have qr := wo_nR hW.1
  refine ev_ald0 1 dX11_markFormula_0 rfl ?_
  refine ev_ild1 2 dX11_markFormula_1 rfl ?_
  exact tx_V1 5 13 dX11_markFormula_2 lkv_X11_104 (tr0 hT) rfl rfl (by first | decide | omega) (Nat.le_of_ble_eq_true rfl) rfl (by decide) (by decide) (c_X11_courseAt_no hT hW hb hn) ⟨rfl, rfl⟩
set_option maxRecDepth 100000 in
set_option maxHeartbeats 4000000 in
theorem c_X11_markFormula_x2 {g : Gt} {α : AL} {ν : Nat → Nat → Bool} {X : XM} {h : AH} (hT : TR g α ν X h) (hW : WX ν X) {c : Nat} (hc : (c : Int) < nC X) {a1 : Int} (ha1 : R31 a1) (hm : ¬ (0 ≤ a1 ∧ a1 ≤ 100)) : Th g M_X11_markFormula 28 [.ref (α 0 0), .int (J (c : Int)), .int (J a1)] h "java/lang/IllegalArgumentException" := by
  refine th_of rfl rfl (ls := [some (.ref (α 0 0)), some (.int (J (c : Int))), some (.int (J a1))]) rfl (Nat.le_of_ble_eq_true rfl) ?_
  show Ev g M_X11_markFormula 28 0 [some (.ref (α 0 0)), some (.int (J (c : Int))), some (.int (J a1))] [] h 1 6 (TQ "java/lang/IllegalArgumentException" h)
  have q1 := wo_nC hW.1
  have q3 := wo_nS hW.1
  have qf := wo_nF hW.1
  have qr := wo_nR hW.1
  refine ev_ald0 1 dX11_markFormula_0 rfl ?_
  refine ev_ild1 2 dX11_markFormula_1 rfl ?_
  refine tc_V1 5 13 dX11_markFormula_2 lkv_X11_104 (tr0 hT) rfl rfl (by first | decide | omega) (Nat.le_of_ble_eq_true rfl) (c_X11_courseAt_ok hT hW (by omega)) ?_
  refine ev_pop 6 dX11_markFormula_5 rfl rfl ?_
  refine ev_ild2 7 dX11_markFormula_6 rfl ?_
  exact tx_S1 10 dX11_markFormula_7 lks_X11_121 rfl (by first | decide | omega) (Nat.le_of_ble_eq_true rfl) rfl (by decide) (by decide) (c_X11_checkMark_no ha1 hm) ⟨rfl, rfl⟩
set_option maxRecDepth 100000 in
set_option maxHeartbeats 4000000 in
theorem c_X11_markFormula_x3 {g : Gt} {α : AL} {ν : Nat → Nat → Bool} {X : XM} {h : AH} (hT : TR g α ν X h) (hW : WX ν X) {c : Nat} (hc : (c : Int) < nC X) {a1 : Int} (ha1 : R31 a1) (h1 : 0 ≤ a1 ∧ a1 ≤ 100) (hm : ¬ nF X < 60) : Th g M_X11_markFormula 28 [.ref (α 0 0), .int (J (c : Int)), .int (J a1)] h "java/lang/IllegalStateException" := by
  refine th_of rfl rfl (ls := [some (.ref (α 0 0)), some (.int (J (c : Int))), some (.int (J a1))]) rfl (Nat.le_of_ble_eq_true rfl) ?_
  show Ev g M_X11_markFormula 28 0 [some (.ref (α 0 0)), some (.int (J (c : Int))), some (.int (J a1))] [] h 1 6 (TQ "java/lang/IllegalStateException" h)
  have q1 := wo_nC hW.1
  have q3 := wo_nS hW.1
  have qf := wo_nF hW.1
  have qr := wo_nR hW.1
  refine ev_ald0 1 dX11_markFormula_0 rfl ?_
  refine ev_ild1 2 dX11_markFormula_1 rfl ?_
  refine tc_V1 5 13 dX11_markFormula_2 lkv_X11_104 (tr0 hT) rfl rfl (by first | decide | omega) (Nat.le_of_ble_eq_true rfl) (c_X11_courseAt_ok hT hW (by omega)) ?_
  refine ev_pop 6 dX11_markFormula_5 rfl rfl ?_
  refine ev_ild2 7 dX11_markFormula_6 rfl ?_
  refine tcv_S1 10 dX11_markFormula_7 lks_X11_121 rfl (by first | decide | omega) (Nat.le_of_ble_eq_true rfl) (c_X11_checkMark_ok (by first | exact TR.rng hT _ _ _ | exact R31_of _ | exact bi_R _ | (constructor <;> omega)) (by omega)) ?_
  refine ev_ald0 11 dX11_markFormula_10 rfl ?_
  refine tj_iconst 12 dX11_markFormula_11 rfl ?_
  exact tx_V1 15 13 dX11_markFormula_12 lkv_X11_124 (tr0 hT) rfl rfl (by first | decide | omega) (Nat.le_of_ble_eq_true rfl) rfl (by decide) (by decide) (c_X11_checkFormulaFits_no hT hW R31_0 (by omega)) ⟨rfl, rfl⟩
set_option maxRecDepth 100000 in
set_option maxHeartbeats 4000000 in
theorem c_X11_togetherFormula_b1 {g : Gt} {α : AL} {ν : Nat → Nat → Bool} {X : XM} {h : AH} (hT : TR g α ν X h) (hW : WX ν X) {b : Int} (hb : R31 b) (hn : ¬ (0 ≤ b ∧ b < nC X)) : Th g M_X11_togetherFormula 28 [.ref (α 0 0), .int (J b)] h "java/lang/IndexOutOfBoundsException" := by
  refine th_of rfl rfl (ls := [some (.ref (α 0 0)), some (.int (J b))]) rfl (Nat.le_of_ble_eq_true rfl) ?_
  show Ev g M_X11_togetherFormula 28 0 [some (.ref (α 0 0)), some (.int (J b))] [] h 1 6 (TQ "java/lang/IndexOutOfBoundsException" h)
  have q1 := wo_nC hW.1
  have q3 := wo_nS hW.1
  have qf := wo_nF hW.1
  have qr := wo_nR hW.1
  refine ev_ald0 1 dX11_togetherFormula_0 rfl ?_
  refine ev_ild1 2 dX11_togetherFormula_1 rfl ?_
  exact tx_V1 5 13 dX11_togetherFormula_2 lkv_X11_104 (tr0 hT) rfl rfl (by first | decide | omega) (Nat.le_of_ble_eq_true rfl) rfl (by decide) (by decide) (c_X11_courseAt_no hT hW hb hn) ⟨rfl, rfl⟩
set_option maxRecDepth 100000 in
set_option maxHeartbeats 4000000 in
theorem c_X11_togetherFormula_x2 {g : Gt} {α : AL} {ν : Nat → Nat → Bool} {X : XM} {h : AH} (hT : TR g α ν X h) (hW : WX ν X) {c : Nat} (hc : (c : Int) < nC X) (hm : ¬ nF X < 60) : Th g M_X11_togetherFormula 28 [.ref (α 0 0), .int (J (c : Int))] h "java/lang/IllegalStateException" := by
  refine th_of rfl rfl (ls := [some (.ref (α 0 0)), some (.int (J (c : Int)))]) rfl (Nat.le_of_ble_eq_true rfl) ?_
  show Ev g M_X11_togetherFormula 28 0 [some (.ref (α 0 0)), some (.int (J (c : Int)))] [] h 1 6 (TQ "java/lang/IllegalStateException" h)
  have q1 := wo_nC hW.1
  have q3 := wo_nS hW.1
  have qf := wo_nF hW.1
  have qr := wo_nR hW.1
  refine ev_ald0 1 dX11_togetherFormula_0 rfl ?_
  refine ev_ild1 2 dX11_togetherFormula_1 rfl ?_
  refine tc_V1 5 13 dX11_togetherFormula_2 lkv_X11_104 (tr0 hT) rfl rfl (by first | decide | omega) (Nat.le_of_ble_eq_true rfl) (c_X11_courseAt_ok hT hW (by omega)) ?_
  refine ev_pop 6 dX11_togetherFormula_5 rfl rfl ?_
  refine ev_ald0 7 dX11_togetherFormula_6 rfl ?_
  refine tj_iconst 8 dX11_togetherFormula_7 rfl ?_
  exact tx_V1 11 13 dX11_togetherFormula_8 lkv_X11_124 (tr0 hT) rfl rfl (by first | decide | omega) (Nat.le_of_ble_eq_true rfl) rfl (by decide) (by decide) (c_X11_checkFormulaFits_no hT hW R31_0 (by omega)) ⟨rfl, rfl⟩
set_option maxRecDepth 100000 in
set_option maxHeartbeats 4000000 in
theorem c_X11_creditsFormula_x1 {g : Gt} {α : AL} {ν : Nat → Nat → Bool} {X : XM} {h : AH} (hT : TR g α ν X h) (hW : WX ν X) {a0 : Int} (ha0 : R31 a0) (hm : ¬ (0 ≤ a0 ∧ a0 ≤ 120)) : Th g M_X11_creditsFormula 28 [.ref (α 0 0), .int (J a0)] h "java/lang/IllegalArgumentException" := by
  refine th_of rfl rfl (ls := [some (.ref (α 0 0)), some (.int (J a0))]) rfl (Nat.le_of_ble_eq_true rfl) ?_
  show Ev g M_X11_creditsFormula 28 0 [some (.ref (α 0 0)), some (.int (J a0))] [] h 1 6 (TQ "java/lang/IllegalArgumentException" h)
  have q1 := wo_nC hW.1
  have q3 := wo_nS hW.1
  have qf := wo_nF hW.1
  have qr := wo_nR hW.1
  refine ev_ild1 1 dX11_creditsFormula_0 rfl ?_
  refine tj_iconst 2 dX11_creditsFormula_1 rfl ?_
  refine tj_bipush 4 dX11_creditsFormula_2 (by decide) rfl ?_
  refine tc_S3 7 dX11_creditsFormula_4 lks_X11_59 rfl (by first | decide | omega) (Nat.le_of_ble_eq_true rfl) (c_X11_isWithin (by first | exact TR.rng hT _ _ _ | exact R31_of _ | exact bi_R _ | (constructor <;> omega)) (by first | exact TR.rng hT _ _ _ | exact R31_of _ | exact bi_R _ | (constructor <;> omega)) (by first | exact TR.rng hT _ _ _ | exact R31_of _ | exact bi_R _ | (constructor <;> omega))) ?_
  refine tb_if_ne 20 10 dX11_creditsFormula_7 (by decide) rfl (fun c7 => ?_) (fun c7 => ?_)
  · exact False.elim (hm (of_decide_eq_true c7))
  · skip
    exact ev_throwS th_X11_63_139_67 rfl ⟨rfl, rfl⟩ (by decide) (by decide) dX11_creditsFormula_10 dX11_creditsFormula_13 dX11_creditsFormula_14 dX11_creditsFormula_16 dX11_creditsFormula_19 (by decide) (by decide)
set_option maxRecDepth 100000 in
set_option maxHeartbeats 4000000 in
theorem c_X11_creditsFormula_x2 {g : Gt} {α : AL} {ν : Nat → Nat → Bool} {X : XM} {h : AH} (hT : TR g α ν X h) (hW : WX ν X) {a0 : Int} (ha0 : R31 a0) (h0 : 0 ≤ a0 ∧ a0 ≤ 120) (hm : ¬ nF X < 60) : Th g M_X11_creditsFormula 28 [.ref (α 0 0), .int (J a0)] h "java/lang/IllegalStateException" := by
  refine th_of rfl rfl (ls := [some (.ref (α 0 0)), some (.int (J a0))]) rfl (Nat.le_of_ble_eq_true rfl) ?_
  show Ev g M_X11_creditsFormula 28 0 [some (.ref (α 0 0)), some (.int (J a0))] [] h 1 6 (TQ "java/lang/IllegalStateException" h)
  have q1 := wo_nC hW.1
  have q3 := wo_nS hW.1
  have qf := wo_nF hW.1
  have qr := wo_nR hW.1
  refine ev_ild1 1 dX11_creditsFormula_0 rfl ?_
  refine tj_iconst 2 dX11_creditsFormula_1 rfl ?_
  refine tj_bipush 4 dX11_creditsFormula_2 (by decide) rfl ?_
  refine tc_S3 7 dX11_creditsFormula_4 lks_X11_59 rfl (by first | decide | omega) (Nat.le_of_ble_eq_true rfl) (c_X11_isWithin (by first | exact TR.rng hT _ _ _ | exact R31_of _ | exact bi_R _ | (constructor <;> omega)) (by first | exact TR.rng hT _ _ _ | exact R31_of _ | exact bi_R _ | (constructor <;> omega)) (by first | exact TR.rng hT _ _ _ | exact R31_of _ | exact bi_R _ | (constructor <;> omega))) ?_
  refine tb_if_ne 20 10 dX11_creditsFormula_7 (by decide) rfl (fun c7 => ?_) (fun c7 => ?_)
  · skip
    refine ev_ald0 21 dX11_creditsFormula_20 rfl ?_
    refine tj_iconst 22 dX11_creditsFormula_21 rfl ?_
    exact tx_V1 25 13 dX11_creditsFormula_22 lkv_X11_124 (tr0 hT) rfl rfl (by first | decide | omega) (Nat.le_of_ble_eq_true rfl) rfl (by decide) (by decide) (c_X11_checkFormulaFits_no hT hW R31_0 (by omega)) ⟨rfl, rfl⟩
  · exact False.elim ((of_decide_eq_false c7) h0)
set_option maxRecDepth 100000 in
set_option maxHeartbeats 4000000 in
theorem c_X11_allFormula_b1 {g : Gt} {α : AL} {ν : Nat → Nat → Bool} {X : XM} {h : AH} (hT : TR g α ν X h) (hW : WX ν X) {b : Int} (hb : R31 b) (hn : ¬ (0 ≤ b ∧ b < nF X)) {a1 : Int} (ha1 : R31 a1) : Th g M_X11_allFormula 28 [.ref (α 0 0), .int (J b), .int (J a1)] h "java/util/NoSuchElementException" := by
  refine th_of rfl rfl (ls := [some (.ref (α 0 0)), some (.int (J b)), some (.int (J a1)), none]) rfl (Nat.le_of_ble_eq_true rfl) ?_
  show Ev g M_X11_allFormula 28 0 [some (.ref (α 0 0)), some (.int (J b)), some (.int (J a1)), none] [] h 1 6 (TQ "java/util/NoSuchElementException" h)
  have q1 := wo_nC hW.1
  have q3 := wo_nS hW.1
  have qf := wo_nF hW.1
  have qr := wo_nR hW.1
  refine tj_iconst 1 dX11_allFormula_0 rfl ?_
  refine ev_ald0 2 dX11_allFormula_1 rfl ?_
  refine ev_ild1 3 dX11_allFormula_2 rfl ?_
  exact tx_V1 6 13 dX11_allFormula_3 lkv_X11_144 (tr0 hT) rfl rfl (by first | decide | omega) (Nat.le_of_ble_eq_true rfl) rfl (by decide) (by decide) (c_X11_formulaAt_no hT hW hb hn) ⟨rfl, rfl⟩
set_option maxRecDepth 100000 in
set_option maxHeartbeats 4000000 in
theorem c_X11_allFormula_b2 {g : Gt} {α : AL} {ν : Nat → Nat → Bool} {X : XM} {h : AH} (hT : TR g α ν X h) (hW : WX ν X) {f : Nat} (hf : (f : Int) < nF X) {b : Int} (hb : R31 b) (hn : ¬ (0 ≤ b ∧ b < nF X)) : Th g M_X11_allFormula 28 [.ref (α 0 0), .int (J (f : Int)), .int (J b)] h "java/util/NoSuchElementException" := by
  refine th_of rfl rfl (ls := [some (.ref (α 0 0)), some (.int (J (f : Int))), some (.int (J b)), none]) rfl (Nat.le_of_ble_eq_true rfl) ?_
  show Ev g M_X11_allFormula 28 0 [some (.ref (α 0 0)), some (.int (J (f : Int))), some (.int (J b)), none] [] h 1 6 (TQ "java/util/NoSuchElementException" h)
  have q1 := wo_nC hW.1
  have q3 := wo_nS hW.1
  have qf := wo_nF hW.1
  have qr := wo_nR hW.1
  refine tj_iconst 1 dX11_allFormula_0 rfl ?_
  refine ev_ald0 2 dX11_allFormula_1 rfl ?_
  refine ev_ild1 3 dX11_allFormula_2 rfl ?_
  refine tc_V1 6 13 dX11_allFormula_3 lkv_X11_144 (tr0 hT) rfl rfl (by first | decide | omega) (Nat.le_of_ble_eq_true rfl) (c_X11_formulaAt_ok hT hW (by omega)) ?_
  refine tv_depth 9 hT (by first | assumption | exact wx_frm hW (by omega)) fl_X11_148_4 fl_X11_148_6 fl_X11_148_7 fl_X11_148_8 fl_X11_148_11 dX11_allFormula_6 rfl ?_
  refine ev_ald0 10 dX11_allFormula_9 rfl ?_
  refine ev_ild2 11 dX11_allFormula_10 rfl ?_
  exact tx_V1 14 13 dX11_allFormula_11 lkv_X11_144 (tr0 hT) rfl rfl (by first | decide | omega) (Nat.le_of_ble_eq_true rfl) rfl (by decide) (by decide) (c_X11_formulaAt_no hT hW hb hn) ⟨rfl, rfl⟩
set_option maxRecDepth 100000 in
set_option maxHeartbeats 4000000 in
theorem c_X11_allFormula_x2 {g : Gt} {α : AL} {ν : Nat → Nat → Bool} {X : XM} {h : AH} (hT : TR g α ν X h) (hW : WX ν X) {f : Nat} (hf : (f : Int) < nF X) {f2 : Nat} (hf2 : (f2 : Int) < nF X) (hm : ¬ (nF X < 60 ∧ 1 + mxI (X 16 f 0) (X 16 f2 0) ≤ 5)) : Th g M_X11_allFormula 28 [.ref (α 0 0), .int (J (f : Int)), .int (J (f2 : Int))] h "java/lang/IllegalStateException" := by
  refine th_of rfl rfl (ls := [some (.ref (α 0 0)), some (.int (J (f : Int))), some (.int (J (f2 : Int))), none]) rfl (Nat.le_of_ble_eq_true rfl) ?_
  show Ev g M_X11_allFormula 28 0 [some (.ref (α 0 0)), some (.int (J (f : Int))), some (.int (J (f2 : Int))), none] [] h 1 6 (TQ "java/lang/IllegalStateException" h)
  have q1 := wo_nC hW.1
  have q3 := wo_nS hW.1
  have qf := wo_nF hW.1
  have qr := wo_nR hW.1
  have qd1 := wo_dep hW.1 f hf
  have qd2 := wo_dep hW.1 f2 hf2
  have qm := mxI_ge (X 16 f 0) (X 16 f2 0)
  refine tj_iconst 1 dX11_allFormula_0 rfl ?_
  refine ev_ald0 2 dX11_allFormula_1 rfl ?_
  refine ev_ild1 3 dX11_allFormula_2 rfl ?_
  refine tc_V1 6 13 dX11_allFormula_3 lkv_X11_144 (tr0 hT) rfl rfl (by first | decide | omega) (Nat.le_of_ble_eq_true rfl) (c_X11_formulaAt_ok hT hW (by omega)) ?_
  refine tv_depth 9 hT (by first | assumption | exact wx_frm hW (by omega)) fl_X11_148_4 fl_X11_148_6 fl_X11_148_7 fl_X11_148_8 fl_X11_148_11 dX11_allFormula_6 rfl ?_
  refine ev_ald0 10 dX11_allFormula_9 rfl ?_
  refine ev_ild2 11 dX11_allFormula_10 rfl ?_
  refine tc_V1 14 13 dX11_allFormula_11 lkv_X11_144 (tr0 hT) rfl rfl (by first | decide | omega) (Nat.le_of_ble_eq_true rfl) (c_X11_formulaAt_ok hT hW (by omega)) ?_
  refine tv_depth 17 hT (by first | assumption | exact wx_frm hW (by omega)) fl_X11_148_4 fl_X11_148_6 fl_X11_148_7 fl_X11_148_8 fl_X11_148_11 dX11_allFormula_14 rfl ?_
  refine tj_mmax 20 dX11_allFormula_17 mmax_X11_153 (by decide) (Nat.le_of_ble_eq_true rfl) rfl (by first | exact TR.rng hT _ _ _ | exact R31_of _ | exact bi_R _ | (constructor <;> omega)) (by first | exact TR.rng hT _ _ _ | exact R31_of _ | exact bi_R _ | (constructor <;> omega)) ?_
  refine tj_iadd 21 dX11_allFormula_20 rfl ?_
  refine ev_ist3 22 dX11_allFormula_21 rfl (by decide) rfl ?_
  refine ev_ald0 23 dX11_allFormula_22 rfl ?_
  refine ev_ild3 24 dX11_allFormula_23 rfl ?_
  exact tx_V1 27 13 dX11_allFormula_24 lkv_X11_124 (tr0 hT) rfl rfl (by first | decide | omega) (Nat.le_of_ble_eq_true rfl) rfl (by decide) (by decide) (c_X11_checkFormulaFits_no hT hW (show R31 (1 + mxI (X 16 f 0) (X 16 f2 0)) from ⟨by omega, by omega⟩) hm) ⟨rfl, rfl⟩
set_option maxRecDepth 100000 in
set_option maxHeartbeats 4000000 in
theorem c_X11_anyFormula_b1 {g : Gt} {α : AL} {ν : Nat → Nat → Bool} {X : XM} {h : AH} (hT : TR g α ν X h) (hW : WX ν X) {b : Int} (hb : R31 b) (hn : ¬ (0 ≤ b ∧ b < nF X)) {a1 : Int} (ha1 : R31 a1) : Th g M_X11_anyFormula 28 [.ref (α 0 0), .int (J b), .int (J a1)] h "java/util/NoSuchElementException" := by
  refine th_of rfl rfl (ls := [some (.ref (α 0 0)), some (.int (J b)), some (.int (J a1)), none]) rfl (Nat.le_of_ble_eq_true rfl) ?_
  show Ev g M_X11_anyFormula 28 0 [some (.ref (α 0 0)), some (.int (J b)), some (.int (J a1)), none] [] h 1 6 (TQ "java/util/NoSuchElementException" h)
  have q1 := wo_nC hW.1
  have q3 := wo_nS hW.1
  have qf := wo_nF hW.1
  have qr := wo_nR hW.1
  refine tj_iconst 1 dX11_anyFormula_0 rfl ?_
  refine ev_ald0 2 dX11_anyFormula_1 rfl ?_
  refine ev_ild1 3 dX11_anyFormula_2 rfl ?_
  exact tx_V1 6 13 dX11_anyFormula_3 lkv_X11_144 (tr0 hT) rfl rfl (by first | decide | omega) (Nat.le_of_ble_eq_true rfl) rfl (by decide) (by decide) (c_X11_formulaAt_no hT hW hb hn) ⟨rfl, rfl⟩
set_option maxRecDepth 100000 in
set_option maxHeartbeats 4000000 in
theorem c_X11_anyFormula_b2 {g : Gt} {α : AL} {ν : Nat → Nat → Bool} {X : XM} {h : AH} (hT : TR g α ν X h) (hW : WX ν X) {f : Nat} (hf : (f : Int) < nF X) {b : Int} (hb : R31 b) (hn : ¬ (0 ≤ b ∧ b < nF X)) : Th g M_X11_anyFormula 28 [.ref (α 0 0), .int (J (f : Int)), .int (J b)] h "java/util/NoSuchElementException" := by
  refine th_of rfl rfl (ls := [some (.ref (α 0 0)), some (.int (J (f : Int))), some (.int (J b)), none]) rfl (Nat.le_of_ble_eq_true rfl) ?_
  show Ev g M_X11_anyFormula 28 0 [some (.ref (α 0 0)), some (.int (J (f : Int))), some (.int (J b)), none] [] h 1 6 (TQ "java/util/NoSuchElementException" h)
  have q1 := wo_nC hW.1
  have q3 := wo_nS hW.1
  have qf := wo_nF hW.1
  have qr := wo_nR hW.1
  refine tj_iconst 1 dX11_anyFormula_0 rfl ?_
  refine ev_ald0 2 dX11_anyFormula_1 rfl ?_
  refine ev_ild1 3 dX11_anyFormula_2 rfl ?_
  refine tc_V1 6 13 dX11_anyFormula_3 lkv_X11_144 (tr0 hT) rfl rfl (by first | decide | omega) (Nat.le_of_ble_eq_true rfl) (c_X11_formulaAt_ok hT hW (by omega)) ?_
  refine tv_depth 9 hT (by first | assumption | exact wx_frm hW (by omega)) fl_X11_148_4 fl_X11_148_6 fl_X11_148_7 fl_X11_148_8 fl_X11_148_11 dX11_anyFormula_6 rfl ?_
  refine ev_ald0 10 dX11_anyFormula_9 rfl ?_
  refine ev_ild2 11 dX11_anyFormula_10 rfl ?_
  exact tx_V1 14 13 dX11_anyFormula_11 lkv_X11_144 (tr0 hT) rfl rfl (by first | decide | omega) (Nat.le_of_ble_eq_true rfl) rfl (by decide) (by decide) (c_X11_formulaAt_no hT hW hb hn) ⟨rfl, rfl⟩
set_option maxRecDepth 100000 in
set_option maxHeartbeats 4000000 in
theorem c_X11_anyFormula_x2 {g : Gt} {α : AL} {ν : Nat → Nat → Bool} {X : XM} {h : AH} (hT : TR g α ν X h) (hW : WX ν X) {f : Nat} (hf : (f : Int) < nF X) {f2 : Nat} (hf2 : (f2 : Int) < nF X) (hm : ¬ (nF X < 60 ∧ 1 + mxI (X 16 f 0) (X 16 f2 0) ≤ 5)) : Th g M_X11_anyFormula 28 [.ref (α 0 0), .int (J (f : Int)), .int (J (f2 : Int))] h "java/lang/IllegalStateException" := by
  refine th_of rfl rfl (ls := [some (.ref (α 0 0)), some (.int (J (f : Int))), some (.int (J (f2 : Int))), none]) rfl (Nat.le_of_ble_eq_true rfl) ?_
  show Ev g M_X11_anyFormula 28 0 [some (.ref (α 0 0)), some (.int (J (f : Int))), some (.int (J (f2 : Int))), none] [] h 1 6 (TQ "java/lang/IllegalStateException" h)
  have q1 := wo_nC hW.1
  have q3 := wo_nS hW.1
  have qf := wo_nF hW.1
  have qr := wo_nR hW.1
  have qd1 := wo_dep hW.1 f hf
  have qd2 := wo_dep hW.1 f2 hf2
  have qm := mxI_ge (X 16 f 0) (X 16 f2 0)
  refine tj_iconst 1 dX11_anyFormula_0 rfl ?_
  refine ev_ald0 2 dX11_anyFormula_1 rfl ?_
  refine ev_ild1 3 dX11_anyFormula_2 rfl ?_
  refine tc_V1 6 13 dX11_anyFormula_3 lkv_X11_144 (tr0 hT) rfl rfl (by first | decide | omega) (Nat.le_of_ble_eq_true rfl) (c_X11_formulaAt_ok hT hW (by omega)) ?_
  refine tv_depth 9 hT (by first | assumption | exact wx_frm hW (by omega)) fl_X11_148_4 fl_X11_148_6 fl_X11_148_7 fl_X11_148_8 fl_X11_148_11 dX11_anyFormula_6 rfl ?_
  refine ev_ald0 10 dX11_anyFormula_9 rfl ?_
  refine ev_ild2 11 dX11_anyFormula_10 rfl ?_
  refine tc_V1 14 13 dX11_anyFormula_11 lkv_X11_144 (tr0 hT) rfl rfl (by first | decide | omega) (Nat.le_of_ble_eq_true rfl) (c_X11_formulaAt_ok hT hW (by omega)) ?_
  refine tv_depth 17 hT (by first | assumption | exact wx_frm hW (by omega)) fl_X11_148_4 fl_X11_148_6 fl_X11_148_7 fl_X11_148_8 fl_X11_148_11 dX11_anyFormula_14 rfl ?_
  refine tj_mmax 20 dX11_anyFormula_17 mmax_X11_153 (by decide) (Nat.le_of_ble_eq_true rfl) rfl (by first | exact TR.rng hT _ _ _ | exact R31_of _ | exact bi_R _ | (constructor <;> omega)) (by first | exact TR.rng hT _ _ _ | exact R31_of _ | exact bi_R _ | (constructor <;> omega)) ?_
  refine tj_iadd 21 dX11_anyFormula_20 rfl ?_
  refine ev_ist3 22 dX11_anyFormula_21 rfl (by decide) rfl ?_
  refine ev_ald0 23 dX11_anyFormula_22 rfl ?_
  refine ev_ild3 24 dX11_anyFormula_23 rfl ?_
  exact tx_V1 27 13 dX11_anyFormula_24 lkv_X11_124 (tr0 hT) rfl rfl (by first | decide | omega) (Nat.le_of_ble_eq_true rfl) rfl (by decide) (by decide) (c_X11_checkFormulaFits_no hT hW (show R31 (1 + mxI (X 16 f 0) (X 16 f2 0)) from ⟨by omega, by omega⟩) hm) ⟨rfl, rfl⟩
set_option maxRecDepth 100000 in
set_option maxHeartbeats 4000000 in
theorem c_X11_twoFormula_b1 {g : Gt} {α : AL} {ν : Nat → Nat → Bool} {X : XM} {h : AH} (hT : TR g α ν X h) (hW : WX ν X) {b : Int} (hb : R31 b) (hn : ¬ (0 ≤ b ∧ b < nF X)) {a1 : Int} (ha1 : R31 a1) {a2 : Int} (ha2 : R31 a2) : Th g M_X11_twoFormula 28 [.ref (α 0 0), .int (J b), .int (J a1), .int (J a2)] h "java/util/NoSuchElementException" := by
  refine th_of rfl rfl (ls := [some (.ref (α 0 0)), some (.int (J b)), some (.int (J a1)), some (.int (J a2)), none, none]) rfl (Nat.le_of_ble_eq_true rfl) ?_
  show Ev g M_X11_twoFormula 28 0 [some (.ref (α 0 0)), some (.int (J b)), some (.int (J a1)), some (.int (J a2)), none, none] [] h 1 6 (TQ "java/util/NoSuchElementException" h)
  have q1 := wo_nC hW.1
  have q3 := wo_nS hW.1
  have qf := wo_nF hW.1
  have qr := wo_nR hW.1
  refine ev_ald0 1 dX11_twoFormula_0 rfl ?_
  refine ev_ild1 2 dX11_twoFormula_1 rfl ?_
  exact tx_V1 5 13 dX11_twoFormula_2 lkv_X11_144 (tr0 hT) rfl rfl (by first | decide | omega) (Nat.le_of_ble_eq_true rfl) rfl (by decide) (by decide) (c_X11_formulaAt_no hT hW hb hn) ⟨rfl, rfl⟩
set_option maxRecDepth 100000 in
set_option maxHeartbeats 4000000 in
theorem c_X11_twoFormula_b2 {g : Gt} {α : AL} {ν : Nat → Nat → Bool} {X : XM} {h : AH} (hT : TR g α ν X h) (hW : WX ν X) {f : Nat} (hf : (f : Int) < nF X) {b : Int} (hb : R31 b) (hn : ¬ (0 ≤ b ∧ b < nF X)) {a2 : Int} (ha2 : R31 a2) : Th g M_X11_twoFormula 28 [.ref (α 0 0), .int (J (f : Int)), .int (J b), .int (J a2)] h "java/util/NoSuchElementException" := by
  refine th_of rfl rfl (ls := [some (.ref (α 0 0)), some (.int (J (f : Int))), some (.int (J b)), some (.int (J a2)), none, none]) rfl (Nat.le_of_ble_eq_true rfl) ?_
  show Ev g M_X11_twoFormula 28 0 [some (.ref (α 0 0)), some (.int (J (f : Int))), some (.int (J b)), some (.int (J a2)), none, none] [] h 1 6 (TQ "java/util/NoSuchElementException" h)
  have q1 := wo_nC hW.1
  have q3 := wo_nS hW.1
  have qf := wo_nF hW.1
  have qr := wo_nR hW.1
  refine ev_ald0 1 dX11_twoFormula_0 rfl ?_
  refine ev_ild1 2 dX11_twoFormula_1 rfl ?_
  refine tc_V1 5 13 dX11_twoFormula_2 lkv_X11_144 (tr0 hT) rfl rfl (by first | decide | omega) (Nat.le_of_ble_eq_true rfl) (c_X11_formulaAt_ok hT hW (by omega)) ?_
  refine tv_depth 8 hT (by first | assumption | exact wx_frm hW (by omega)) fl_X11_148_4 fl_X11_148_6 fl_X11_148_7 fl_X11_148_8 fl_X11_148_11 dX11_twoFormula_5 rfl ?_
  refine ev_ald0 9 dX11_twoFormula_8 rfl ?_
  refine ev_ild2 10 dX11_twoFormula_9 rfl ?_
  exact tx_V1 13 13 dX11_twoFormula_10 lkv_X11_144 (tr0 hT) rfl rfl (by first | decide | omega) (Nat.le_of_ble_eq_true rfl) rfl (by decide) (by decide) (c_X11_formulaAt_no hT hW hb hn) ⟨rfl, rfl⟩
set_option maxRecDepth 100000 in
set_option maxHeartbeats 4000000 in
theorem c_X11_twoFormula_b3 {g : Gt} {α : AL} {ν : Nat → Nat → Bool} {X : XM} {h : AH} (hT : TR g α ν X h) (hW : WX ν X) {f : Nat} (hf : (f : Int) < nF X) {f2 : Nat} (hf2 : (f2 : Int) < nF X) {b : Int} (hb : R31 b) (hn : ¬ (0 ≤ b ∧ b < nF X)) : Th g M_X11_twoFormula 28 [.ref (α 0 0), .int (J (f : Int)), .int (J (f2 : Int)), .int (J b)] h "java/util/NoSuchElementException" := by
  refine th_of rfl rfl (ls := [some (.ref (α 0 0)), some (.int (J (f : Int))), some (.int (J (f2 : Int))), some (.int (J b)), none, none]) rfl (Nat.le_of_ble_eq_true rfl) ?_
  show Ev g M_X11_twoFormula 28 0 [some (.ref (α 0 0)), some (.int (J (f : Int))), some (.int (J (f2 : Int))), some (.int (J b)), none, none] [] h 1 6 (TQ "java/util/NoSuchElementException" h)
  have q1 := wo_nC hW.1
  have q3 := wo_nS hW.1
  have qf := wo_nF hW.1
  have qr := wo_nR hW.1
  have qd1 := wo_dep hW.1 f hf
  have qd2 := wo_dep hW.1 f2 hf2
  have qm := mxI_ge (X 16 f 0) (X 16 f2 0)
  refine ev_ald0 1 dX11_twoFormula_0 rfl ?_
  refine ev_ild1 2 dX11_twoFormula_1 rfl ?_
  refine tc_V1 5 13 dX11_twoFormula_2 lkv_X11_144 (tr0 hT) rfl rfl (by first | decide | omega) (Nat.le_of_ble_eq_true rfl) (c_X11_formulaAt_ok hT hW (by omega)) ?_
  refine tv_depth 8 hT (by first | assumption | exact wx_frm hW (by omega)) fl_X11_148_4 fl_X11_148_6 fl_X11_148_7 fl_X11_148_8 fl_X11_148_11 dX11_twoFormula_5 rfl ?_
  refine ev_ald0 9 dX11_twoFormula_8 rfl ?_
  refine ev_ild2 10 dX11_twoFormula_9 rfl ?_
  refine tc_V1 13 13 dX11_twoFormula_10 lkv_X11_144 (tr0 hT) rfl rfl (by first | decide | omega) (Nat.le_of_ble_eq_true rfl) (c_X11_formulaAt_ok hT hW (by omega)) ?_
  refine tv_depth 16 hT (by first | assumption | exact wx_frm hW (by omega)) fl_X11_148_4 fl_X11_148_6 fl_X11_148_7 fl_X11_148_8 fl_X11_148_11 dX11_twoFormula_13 rfl ?_
  refine tj_mmax 19 dX11_twoFormula_16 mmax_X11_153 (by decide) (Nat.le_of_ble_eq_true rfl) rfl (by first | exact TR.rng hT _ _ _ | exact R31_of _ | exact bi_R _ | (constructor <;> omega)) (by first | exact TR.rng hT _ _ _ | exact R31_of _ | exact bi_R _ | (constructor <;> omega)) ?_
  refine ev_ist4 21 dX11_twoFormula_19 rfl (by decide) rfl ?_
  refine tj_iconst 22 dX11_twoFormula_21 rfl ?_
  refine ev_ild4 24 dX11_twoFormula_22 rfl ?_
  refine ev_ald0 25 dX11_twoFormula_24 rfl ?_
  refine ev_ild3 26 dX11_twoFormula_25 rfl ?_
  exact tx_V1 29 13 dX11_twoFormula_26 lkv_X11_144 (tr0 hT) rfl rfl (by first | decide | omega) (Nat.le_of_ble_eq_true rfl) rfl (by decide) (by decide) (c_X11_formulaAt_no hT hW hb hn) ⟨rfl, rfl⟩
set_option maxRecDepth 100000 in
set_option maxHeartbeats 4000000 in
theorem c_X11_twoFormula_x2 {g : Gt} {α : AL} {ν : Nat → Nat → Bool} {X : XM} {h : AH} (hT : TR g α ν X h) (hW : WX ν X) {f : Nat} (hf : (f : Int) < nF X) {f2 : Nat} (hf2 : (f2 : Int) < nF X) {f3 : Nat} (hf3 : (f3 : Int) < nF X) (hm : ¬ (nF X < 60 ∧ 1 + mxI (mxI (X 16 f 0) (X 16 f2 0)) (X 16 f3 0) ≤ 5)) : Th g M_X11_twoFormula 28 [.ref (α 0 0), .int (J (f : Int)), .int (J (f2 : Int)), .int (J (f3 : Int))] h "java/lang/IllegalStateException" := by
  refine th_of rfl rfl (ls := [some (.ref (α 0 0)), some (.int (J (f : Int))), some (.int (J (f2 : Int))), some (.int (J (f3 : Int))), none, none]) rfl (Nat.le_of_ble_eq_true rfl) ?_
  show Ev g M_X11_twoFormula 28 0 [some (.ref (α 0 0)), some (.int (J (f : Int))), some (.int (J (f2 : Int))), some (.int (J (f3 : Int))), none, none] [] h 1 6 (TQ "java/lang/IllegalStateException" h)
  have q1 := wo_nC hW.1
  have q3 := wo_nS hW.1
  have qf := wo_nF hW.1
  have qr := wo_nR hW.1
  have qd1 := wo_dep hW.1 f hf
  have qd2 := wo_dep hW.1 f2 hf2
  have qm := mxI_ge (X 16 f 0) (X 16 f2 0)
  have qd3 := wo_dep hW.1 f3 hf3
  have qm2 := mxI_ge (mxI (X 16 f 0) (X 16 f2 0)) (X 16 f3 0)
  refine ev_ald0 1 dX11_twoFormula_0 rfl ?_
  refine ev_ild1 2 dX11_twoFormula_1 rfl ?_
  refine tc_V1 5 13 dX11_twoFormula_2 lkv_X11_144 (tr0 hT) rfl rfl (by first | decide | omega) (Nat.le_of_ble_eq_true rfl) (c_X11_formulaAt_ok hT hW (by omega)) ?_
  refine tv_depth 8 hT (by first | assumption | exact wx_frm hW (by omega)) fl_X11_148_4 fl_X11_148_6 fl_X11_148_7 fl_X11_148_8 fl_X11_148_11 dX11_twoFormula_5 rfl ?_
  refine ev_ald0 9 dX11_twoFormula_8 rfl ?_
  refine ev_ild2 10 dX11_twoFormula_9 rfl ?_
  refine tc_V1 13 13 dX11_twoFormula_10 lkv_X11_144 (tr0 hT) rfl rfl (by first | decide | omega) (Nat.le_of_ble_eq_true rfl) (c_X11_formulaAt_ok hT hW (by omega)) ?_
  refine tv_depth 16 hT (by first | assumption | exact wx_frm hW (by omega)) fl_X11_148_4 fl_X11_148_6 fl_X11_148_7 fl_X11_148_8 fl_X11_148_11 dX11_twoFormula_13 rfl ?_
  refine tj_mmax 19 dX11_twoFormula_16 mmax_X11_153 (by decide) (Nat.le_of_ble_eq_true rfl) rfl (by first | exact TR.rng hT _ _ _ | exact R31_of _ | exact bi_R _ | (constructor <;> omega)) (by first | exact TR.rng hT _ _ _ | exact R31_of _ | exact bi_R _ | (constructor <;> omega)) ?_
  refine ev_ist4 21 dX11_twoFormula_19 rfl (by decide) rfl ?_
  refine tj_iconst 22 dX11_twoFormula_21 rfl ?_
  refine ev_ild4 24 dX11_twoFormula_22 rfl ?_
  refine ev_ald0 25 dX11_twoFormula_24 rfl ?_
  refine ev_ild3 26 dX11_twoFormula_25 rfl ?_
  refine tc_V1 29 13 dX11_twoFormula_26 lkv_X11_144 (tr0 hT) rfl rfl (by first | decide | omega) (Nat.le_of_ble_eq_true rfl) (c_X11_formulaAt_ok hT hW (by omega)) ?_
  refine tv_depth 32 hT (by first | assumption | exact wx_frm hW (by omega)) fl_X11_148_4 fl_X11_148_6 fl_X11_148_7 fl_X11_148_8 fl_X11_148_11 dX11_twoFormula_29 rfl ?_
  refine tj_mmax 35 dX11_twoFormula_32 mmax_X11_153 (by decide) (Nat.le_of_ble_eq_true rfl) rfl (by first | exact TR.rng hT _ _ _ | exact R31_of _ | exact bi_R _ | (constructor <;> omega)) (by first | exact TR.rng hT _ _ _ | exact R31_of _ | exact bi_R _ | (constructor <;> omega)) ?_
  refine tj_iadd 36 dX11_twoFormula_35 rfl ?_
  refine ev_ist5 38 dX11_twoFormula_36 rfl (by decide) rfl ?_
  refine ev_ald0 39 dX11_twoFormula_38 rfl ?_
  refine ev_ild5 41 dX11_twoFormula_39 rfl ?_
  exact tx_V1 44 13 dX11_twoFormula_41 lkv_X11_124 (tr0 hT) rfl rfl (by first | decide | omega) (Nat.le_of_ble_eq_true rfl) rfl (by decide) (by decide) (c_X11_checkFormulaFits_no hT hW (show R31 (1 + mxI (mxI (X 16 f 0) (X 16 f2 0)) (X 16 f3 0)) from ⟨by omega, by omega⟩) hm) ⟨rfl, rfl⟩
set_option maxRecDepth 100000 in
set_option maxHeartbeats 4000000 in
theorem c_X11_noneFormula_b1 {g : Gt} {α : AL} {ν : Nat → Nat → Bool} {X : XM} {h : AH} (hT : TR g α ν X h) (hW : WX ν X) {b : Int} (hb : R31 b) (hn : ¬ (0 ≤ b ∧ b < nF X)) : Th g M_X11_noneFormula 28 [.ref (α 0 0), .int (J b)] h "java/util/NoSuchElementException" := by
  refine th_of rfl rfl (ls := [some (.ref (α 0 0)), some (.int (J b)), none]) rfl (Nat.le_of_ble_eq_true rfl) ?_
  show Ev g M_X11_noneFormula 28 0 [some (.ref (α 0 0)), some (.int (J b)), none] [] h 1 6 (TQ "java/util/NoSuchElementException" h)
  have q1 := wo_nC hW.1
  have q3 := wo_nS hW.1
  have qf := wo_nF hW.1
  have qr := wo_nR hW.1
  refine tj_iconst 1 dX11_noneFormula_0 rfl ?_
  refine ev_ald0 2 dX11_noneFormula_1 rfl ?_
  refine ev_ild1 3 dX11_noneFormula_2 rfl ?_
  exact tx_V1 6 13 dX11_noneFormula_3 lkv_X11_144 (tr0 hT) rfl rfl (by first | decide | omega) (Nat.le_of_ble_eq_true rfl) rfl (by decide) (by decide) (c_X11_formulaAt_no hT hW hb hn) ⟨rfl, rfl⟩
set_option maxRecDepth 100000 in
set_option maxHeartbeats 4000000 in
theorem c_X11_noneFormula_x2 {g : Gt} {α : AL} {ν : Nat → Nat → Bool} {X : XM} {h : AH} (hT : TR g α ν X h) (hW : WX ν X) {f : Nat} (hf : (f : Int) < nF X) (hm : ¬ (nF X < 60 ∧ 1 + X 16 f 0 ≤ 5)) : Th g M_X11_noneFormula 28 [.ref (α 0 0), .int (J (f : Int))] h "java/lang/IllegalStateException" := by
  refine th_of rfl rfl (ls := [some (.ref (α 0 0)), some (.int (J (f : Int))), none]) rfl (Nat.le_of_ble_eq_true rfl) ?_
  show Ev g M_X11_noneFormula 28 0 [some (.ref (α 0 0)), some (.int (J (f : Int))), none] [] h 1 6 (TQ "java/lang/IllegalStateException" h)
  have q1 := wo_nC hW.1
  have q3 := wo_nS hW.1
  have qf := wo_nF hW.1
  have qr := wo_nR hW.1
  have qd1 := wo_dep hW.1 f hf
  refine tj_iconst 1 dX11_noneFormula_0 rfl ?_
  refine ev_ald0 2 dX11_noneFormula_1 rfl ?_
  refine ev_ild1 3 dX11_noneFormula_2 rfl ?_
  refine tc_V1 6 13 dX11_noneFormula_3 lkv_X11_144 (tr0 hT) rfl rfl (by first | decide | omega) (Nat.le_of_ble_eq_true rfl) (c_X11_formulaAt_ok hT hW (by omega)) ?_
  refine tv_depth 9 hT (by first | assumption | exact wx_frm hW (by omega)) fl_X11_148_4 fl_X11_148_6 fl_X11_148_7 fl_X11_148_8 fl_X11_148_11 dX11_noneFormula_6 rfl ?_
  refine tj_iadd 10 dX11_noneFormula_9 rfl ?_
  refine ev_ist2 11 dX11_noneFormula_10 rfl (by decide) rfl ?_
  refine ev_ald0 12 dX11_noneFormula_11 rfl ?_
  refine ev_ild2 13 dX11_noneFormula_12 rfl ?_
  exact tx_V1 16 13 dX11_noneFormula_13 lkv_X11_124 (tr0 hT) rfl rfl (by first | decide | omega) (Nat.le_of_ble_eq_true rfl) rfl (by decide) (by decide) (c_X11_checkFormulaFits_no hT hW (show R31 (1 + X 16 f 0) from ⟨by omega, by omega⟩) hm) ⟨rfl, rfl⟩
