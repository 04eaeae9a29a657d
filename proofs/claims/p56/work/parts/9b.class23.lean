/-! THE CLASS MAKES: what comes -/
theorem gk_1x (i : Nat) {a : Nat} (h : a ≠ 0 ∧ a ≠ 12 := by decide) : (gk 1 i).1 ≠ a := by
  unfold gk
  rw [if_neg (by decide), if_neg (by decide), if_neg (by decide), if_neg (by decide), if_pos rfl]
  by_cases c : i < 4
  · rw [if_pos c]; exact fun e => h.1 e.symm
  · rw [if_neg c]; exact fun e => h.2 e.symm
theorem gk_1y (i : Nat) : (gk 1 i).1 ≠ 4 := gk_1x i
set_option maxRecDepth 100000 in
set_option maxHeartbeats 4000000 in
theorem c_X11_addCourse_ok {g : Gt} {α : AL} {ν : Nat → Nat → Bool} {X : XM} {h : AH} (hT : TR g α ν X h) (hW : WX ν X) (hV : NV ν X) {a0 : Int} (ha0 : R31 a0) {a1 : Int} (ha1 : R31 a1) (h0 : 1 ≤ a0 ∧ a0 ≤ 6) (h1 : 1 ≤ a1 ∧ a1 ≤ 12) (hm : nC X < 20) {n : Nat} (hn : nC X = (n : Int)) : Al g M_X11_addCourse 28 [.ref (α 0 0), .int (J a0), .int (J a1)] h 4 113 (some (.int (J (nC X)))) (MK α ν X (12, n) (xC a0 a1) 0 n) := by
  refine al_of rfl rfl (ls := [some (.ref (α 0 0)), some (.int (J a0)), some (.int (J a1))]) rfl (Nat.le_of_ble_eq_true rfl) ?_
  show Ev g M_X11_addCourse 28 0 [some (.ref (α 0 0)), some (.int (J a0)), some (.int (J a1))] [] h 4 113 (AQ g (some (.int (J (nC X)))) (MK α ν X (12, n) (xC a0 a1) 0 n))
  have q1 := wo_nC hW.1
  have q3 := wo_nS hW.1
  have qf := wo_nF hW.1
  have qr := wo_nR hW.1
  refine ev_ild1 1 dX11_addCourse_0 rfl ?_
  refine tj_iconst 2 dX11_addCourse_1 rfl ?_
  refine tj_bipush 4 dX11_addCourse_2 (by decide) rfl ?_
  refine tc_S3 7 dX11_addCourse_4 lks_X11_59 rfl (by first | decide | omega) (Nat.le_of_ble_eq_true rfl) (c_X11_isWithin (by first | exact TR.rng hT _ _ _ | exact R31_of _ | exact bi_R _ | (constructor <;> omega)) (by first | exact TR.rng hT _ _ _ | exact R31_of _ | exact bi_R _ | (constructor <;> omega)) (by first | exact TR.rng hT _ _ _ | exact R31_of _ | exact bi_R _ | (constructor <;> omega))) ?_
  refine tb_if_eq 20 10 dX11_addCourse_7 (by decide) rfl (fun c7 => ?_) (fun c7 => ?_)
  · exact False.elim ((of_decide_eq_false c7) h0)
  · skip
    refine ev_ild2 11 dX11_addCourse_10 rfl ?_
    refine tj_iconst 12 dX11_addCourse_11 rfl ?_
    refine tj_bipush 14 dX11_addCourse_12 (by decide) rfl ?_
    refine tc_S3 17 dX11_addCourse_14 lks_X11_59 rfl (by first | decide | omega) (Nat.le_of_ble_eq_true rfl) (c_X11_isWithin (by first | exact TR.rng hT _ _ _ | exact R31_of _ | exact bi_R _ | (constructor <;> omega)) (by first | exact TR.rng hT _ _ _ | exact R31_of _ | exact bi_R _ | (constructor <;> omega)) (by first | exact TR.rng hT _ _ _ | exact R31_of _ | exact bi_R _ | (constructor <;> omega))) ?_
    refine tb_if_ne 30 20 dX11_addCourse_17 (by decide) rfl (fun c17 => ?_) (fun c17 => ?_)
    · skip
      refine ev_ald0 31 dX11_addCourse_30 rfl ?_
      refine ev_getfield 34 13 0 fl_X11_12_13 (tr0 hT) rfl dX11_addCourse_31 rfl ?_
      refine tc_V0 37 2 dX11_addCourse_34 lkv_X11_70 (tr1_0 hT) rfl rfl (by first | decide | omega) (Nat.le_of_ble_eq_true rfl) (z_C hT hW) ?_
      refine tj_bipush 39 dX11_addCourse_37 (by decide) rfl ?_
      refine tj_icmp_lt 52 42 dX11_addCourse_39 (by decide) rfl (by first | exact TR.rng hT _ _ _ | exact R31_of _ | exact bi_R _ | (constructor <;> omega)) (by first | exact TR.rng hT _ _ _ | exact R31_of _ | exact bi_R _ | (constructor <;> omega)) (fun c39 => ?_) (fun c39 => ?_)
      · skip
        refine ev_ald0 53 dX11_addCourse_52 rfl ?_
        refine ev_getfield 56 13 0 fl_X11_12_13 (tr0 hT) rfl dX11_addCourse_53 rfl ?_
        refine ev_mono (mc := 3 + 1) (ms := 107 + 6) (by omega) (by omega) ?_
        refine ev_new (fs := [.int 0, .int 0, .int 0, .null, .null, .int 0]) 59 5 nw_X11_79 dX11_addCourse_56 rfl (fun q hq hgq => ?_)
        have hT1 := hT.up (c := .inr (5, [.int 0, .int 0, .int 0, .null, .null, .int 0])) hq
        refine ev_dup 60 dX11_addCourse_59 rfl rfl ?_
        refine ev_ald0 61 dX11_addCourse_60 rfl ?_
        refine ev_getfield 64 13 0 fl_X11_12_13 (tr0 hT1) rfl dX11_addCourse_61 rfl ?_
        refine tc_V0 67 2 dX11_addCourse_64 lkv_X11_70 (tr1_0 hT1) rfl rfl (by decide) (Nat.le_of_ble_eq_true rfl) (c_Jx4a65c_size_8abf5 hT1 (lw_i hT1 hW (by decide))) ?_
        refine ev_ild1 68 dX11_addCourse_67 rfl ?_
        refine ev_ild2 69 dX11_addCourse_68 rfl ?_
        refine ev_mono (mc := 2 + 1) (ms := 7 + 100) (by omega) (by omega) ?_
        refine kv_init 72 lki_X11_81 (k_X2_init (hup_eq _ _ _) hgq) (by decide) rfl rfl (Nat.le_of_ble_eq_true rfl) dX11_addCourse_69 rfl (fun h2 K2 => ?_)
        obtain ⟨ua1, ua2, K2⟩ := K2
        have F := FR.of_KN hq K2
        obtain ⟨α1, hT2, hq2, hα⟩ := tn_course (n := n) hT hV.1 (nv_12 hV hn) (by rw [← hn]; exact F) (by first | exact TR.rng hT _ _ _ | exact R31_of _ | exact bi_R _ | (constructor <;> omega)) (by first | exact TR.rng hT _ _ _ | exact R31_of _ | exact bi_R _ | (constructor <;> omega))
        have hC1 := clo_grow (G := (12, n)) (x := xC a0 a1) hV.1 (show (12 : Nat) ≠ 2 by decide) (fun z => by exact absurd z (show ¬ (12 : Nat) = 4 by decide)) (fun i z => by rcases gk_12 z with y | y | y <;> first | (exact absurd y.1 (by decide)) | rfl)
        have hL1 := lw_grow (G := (12, n)) (x := xC a0 a1) (lw_i hT hW (show 0 < 4 by decide)) (show (12 : Nat) ≠ 2 by decide) (gk_ne (by show (0 : Nat) ≠ 12; decide))
        have hX1 : xG X (12, n) (xC a0 a1) 1 0 = X 1 0 := xG_ne (gk_ne (by show (0 : Nat) ≠ 12; decide))
        have hX2 : xG X (12, n) (xC a0 a1) 2 0 = X 2 0 := xG_ne (gk_ne (by show (2 : Nat) ≠ 12; decide))
        have hl0 : 0 ≤ xG X (12, n) (xC a0 a1) 1 0 2 := by rw [hX1]; show 0 ≤ nC X; omega
        have hcA := c_add (i := 0) (e := n) hT2 hC1 hL1 (by rw [hX1]; show nC X ≤ 60; omega) (fun z => by rw [hX1] at z; rw [hX2]; exact hV.2.2.2.2.2 0 (hV.1.2.2.2.1 0 (tv1_0 hT) z)) (tv12 hT2 (nuG_new ν (12, n))) (by omega)
        rw [hα 1 0 (gk_ne (by show (0 : Nat) ≠ 12; decide)), show α1 (ek 0) n = q from hq2] at hcA
        have hb2 := tr1_0 hT2
        rw [hα 1 0 (gk_ne (by show (0 : Nat) ≠ 12; decide))] at hb2
        refine ev_mono (mc := 1 + 0) (ms := 100 + 0) (by omega) (by omega) ?_
        refine ta_V1 75 2 dX11_addCourse_72 lkv_X11_84 hb2 rfl rfl (by decide) (Nat.le_of_ble_eq_true rfl) hcA (fun h3 α2 ν2 X2 hT3 hP => ?_)
        have e0 : α2 0 0 = α 0 0 := (hP.1 0 0 (by decide)).trans (hα 0 0 (gk_ne (by show (0 : Nat) ≠ 12; decide)))
        rw [← e0]
        refine ev_pop 76 dX11_addCourse_75 rfl rfl ?_
        refine ev_ald0 77 dX11_addCourse_76 rfl ?_
        refine ev_getfield 80 13 0 fl_X11_12_13 (tr0 hT3) rfl dX11_addCourse_77 rfl ?_
        refine tc_V0 83 2 dX11_addCourse_80 lkv_X11_70 (tr1_0 hT3) rfl rfl (by decide) (Nat.le_of_ble_eq_true rfl) (c_Jx4a65c_size_8abf5 hT3 (add_lw hP (tv1_0 hT2) hl0)) ?_
        refine tj_iconst 84 dX11_addCourse_83 rfl ?_
        refine tj_isub 85 dX11_addCourse_84 rfl ?_
        exact ev_ireturn ⟨by rw [hP.2.2.2.2.1, hX1]; exact congrArg (fun z : Int => (Sum.inl (some (Value.int (J z))) : RT)) (show nC X + 1 - 1 = nC X by omega), α2, ν2, X2, hT3, α1, hα, hP⟩ rfl dX11_addCourse_85
      · exact False.elim (by omega)
    · exact False.elim ((of_decide_eq_false c17) h1)
set_option maxRecDepth 100000 in
set_option maxHeartbeats 4000000 in
theorem c_X11_addStudent_ok {g : Gt} {α : AL} {ν : Nat → Nat → Bool} {X : XM} {h : AH} (hT : TR g α ν X h) (hW : WX ν X) (hV : NV ν X) {a0 : Int} (ha0 : R31 a0) (h0 : 0 ≤ a0 ∧ a0 ≤ 3) (hm : nS X < 16) {n : Nat} (hn : nS X = (n : Int)) : Al g M_X11_addStudent 28 [.ref (α 0 0), .int (J a0)] h 28 287 (some (.int (J (nS X)))) (MK α ν X (4, n) (xS a0) 1 n) := by
  refine al_of rfl rfl (ls := [some (.ref (α 0 0)), some (.int (J a0))]) rfl (Nat.le_of_ble_eq_true rfl) ?_
  show Ev g M_X11_addStudent 28 0 [some (.ref (α 0 0)), some (.int (J a0))] [] h 28 287 (AQ g (some (.int (J (nS X)))) (MK α ν X (4, n) (xS a0) 1 n))
  have q1 := wo_nC hW.1
  have q3 := wo_nS hW.1
  have qf := wo_nF hW.1
  have qr := wo_nR hW.1
  refine ev_ild1 1 dX11_addStudent_0 rfl ?_
  refine tcv_S1 4 dX11_addStudent_1 lks_X11_88 rfl (by first | decide | omega) (Nat.le_of_ble_eq_true rfl) (c_X11_checkMajor_ok (by first | exact TR.rng hT _ _ _ | exact R31_of _ | exact bi_R _ | (constructor <;> omega)) (by omega)) ?_
  refine ev_ald0 5 dX11_addStudent_4 rfl ?_
  refine ev_getfield 8 13 1 fl_X11_16_13 (tr0 hT) rfl dX11_addStudent_5 rfl ?_
  refine tc_V0 11 2 dX11_addStudent_8 lkv_X11_70 (tr1_1 hT) rfl rfl (by first | decide | omega) (Nat.le_of_ble_eq_true rfl) (z_S hT hW) ?_
  refine tj_bipush 13 dX11_addStudent_11 (by decide) rfl ?_
  refine tj_icmp_lt 26 16 dX11_addStudent_13 (by decide) rfl (by first | exact TR.rng hT _ _ _ | exact R31_of _ | exact bi_R _ | (constructor <;> omega)) (by first | exact TR.rng hT _ _ _ | exact R31_of _ | exact bi_R _ | (constructor <;> omega)) (fun c13 => ?_) (fun c13 => ?_)
  · skip
    refine ev_ald0 27 dX11_addStudent_26 rfl ?_
    refine ev_getfield 30 13 1 fl_X11_16_13 (tr0 hT) rfl dX11_addStudent_27 rfl ?_
    refine ev_mono (mc := 27 + 1) (ms := 280 + 7) (by omega) (by omega) ?_
    refine ev_new (fs := [.int 0, .null, .null, .null, .null, .null, .null]) 33 10 nw_X11_29 dX11_addStudent_30 rfl (fun q hq hgq => ?_)
    have hT1 := hT.up (c := .inr (10, [.int 0, .null, .null, .null, .null, .null, .null])) hq
    refine ev_dup 34 dX11_addStudent_33 rfl rfl ?_
    refine ev_ild1 35 dX11_addStudent_34 rfl ?_
    refine ev_mono (mc := 26 + 1) (ms := 180 + 100) (by omega) (by omega) ?_
    refine kv_init 38 lki_X11_31 (k_X8_init (hup_eq _ _ _) hgq) (by decide) rfl rfl (Nat.le_of_ble_eq_true rfl) dX11_addStudent_35 rfl (fun h2 K2 => ?_)
    obtain ⟨ua1, ua2, ua3, ua4, ua5, ua6, ur7, K2⟩ := K2
    have F := FR.of_KN hq K2
    obtain ⟨α1, hT2, hq2, hα⟩ := tn_student (n := n) hT hV.1 (nv_4 hV hn (by omega)) (by exact F) (by first | exact TR.rng hT _ _ _ | exact R31_of _ | exact bi_R _ | (constructor <;> omega))
    have hC1 := clo_grow (G := (4, n)) (x := xS a0) hV.1 (show (4 : Nat) ≠ 2 by decide) (fun z => by show n < 17; omega) (fun i z => by exact absurd (congrArg Prod.fst z) (gk_1y i))
    have hL1 := lw_grow (G := (4, n)) (x := xS a0) (lw_i hT hW (show 1 < 4 by decide)) (show (4 : Nat) ≠ 2 by decide) (gk_ne (by show (0 : Nat) ≠ 4; decide))
    have hX1 : xG X (4, n) (xS a0) 1 1 = X 1 1 := xG_ne (gk_ne (by show (0 : Nat) ≠ 4; decide))
    have hX2 : xG X (4, n) (xS a0) 2 1 = X 2 1 := xG_ne (gk_ne (by show (2 : Nat) ≠ 4; decide))
    have hl0 : 0 ≤ xG X (4, n) (xS a0) 1 1 2 := by rw [hX1]; show 0 ≤ nS X; omega
    have hcA := c_add (i := 1) (e := n) hT2 hC1 hL1 (by rw [hX1]; show nS X ≤ 60; omega) (fun z => by rw [hX1] at z; rw [hX2]; exact hV.2.2.2.2.2 1 (hV.1.2.2.2.1 1 (tv1_1 hT) z)) (tv4 hT2 (nuG_new ν (4, n)) (by omega)) (by omega)
    rw [hα 1 1 (gk_ne (by show (0 : Nat) ≠ 4; decide)), show α1 (ek 1) n = q from hq2] at hcA
    have hb2 := tr1_1 hT2
    rw [hα 1 1 (gk_ne (by show (0 : Nat) ≠ 4; decide))] at hb2
    refine ev_mono (mc := 1 + 0) (ms := 100 + 0) (by omega) (by omega) ?_
    refine ta_V1 41 2 dX11_addStudent_38 lkv_X11_84 hb2 rfl rfl (by decide) (Nat.le_of_ble_eq_true rfl) hcA (fun h3 α2 ν2 X2 hT3 hP => ?_)
    have e0 : α2 0 0 = α 0 0 := (hP.1 0 0 (by decide)).trans (hα 0 0 (gk_ne (by show (0 : Nat) ≠ 4; decide)))
    rw [← e0]
    refine ev_pop 42 dX11_addStudent_41 rfl rfl ?_
    refine ev_ald0 43 dX11_addStudent_42 rfl ?_
    refine ev_getfield 46 13 1 fl_X11_16_13 (tr0 hT3) rfl dX11_addStudent_43 rfl ?_
    refine tc_V0 49 2 dX11_addStudent_46 lkv_X11_70 (tr1_1 hT3) rfl rfl (by decide) (Nat.le_of_ble_eq_true rfl) (c_Jx4a65c_size_8abf5 hT3 (add_lw hP (tv1_1 hT2) hl0)) ?_
    refine tj_iconst 50 dX11_addStudent_49 rfl ?_
    refine tj_isub 51 dX11_addStudent_50 rfl ?_
    exact ev_ireturn ⟨by rw [hP.2.2.2.2.1, hX1]; exact congrArg (fun z : Int => (Sum.inl (some (Value.int (J z))) : RT)) (show nS X + 1 - 1 = nS X by omega), α2, ν2, X2, hT3, α1, hα, hP⟩ rfl dX11_addStudent_51
  · exact False.elim (by omega)
theorem c_X11_keep {g : Gt} {α : AL} {ν : Nat → Nat → Bool} {X : XM} {h : AH} {e : Nat} (hT : TR g α ν X h) (hC : CLO ν X) (hL : LW ν X 2) (h60 : X 1 2 2 ≤ 60) (hcap : X 1 2 1 ≠ 0 → 1 ≤ X 2 2 0) (he : vk ν 16 e = true) (he1 : e < 1000) : Al g M_X11_keep 12 [.ref (α 0 0), .ref (α 16 e)] h 1 100 (some (.int (J (X 1 2 2)))) (ADD α ν X 2 e) := by
  refine al_of rfl rfl (ls := [some (.ref (α 0 0)), some (.ref (α 16 e))]) rfl (Nat.le_of_ble_eq_true rfl) ?_
  refine ev_ald0 1 dX11_keep_0 rfl ?_
  refine ev_getfield 4 13 2 fl_X11_19_13 (tr0 hT) rfl dX11_keep_1 rfl ?_
  refine ev_ald1 5 dX11_keep_4 rfl ?_
  have hcA := c_add (i := 2) (e := e) hT hC hL h60 hcap he he1
  refine ev_mono (mc := 1 + 0) (ms := 100 + 0) (by omega) (by omega) ?_
  refine ta_V1 8 2 dX11_keep_5 lkv_X11_84 (tr1_2 hT) rfl rfl (by decide) (Nat.le_of_ble_eq_true rfl) hcA (fun h3 α2 ν2 X2 hT3 hP => ?_)
  have e0 : α2 0 0 = α 0 0 := hP.1 0 0 (by decide)
  rw [← e0]
  refine ev_pop 9 dX11_keep_8 rfl rfl ?_
  refine ev_ald0 10 dX11_keep_9 rfl ?_
  refine ev_getfield 13 13 2 fl_X11_19_13 (tr0 hT3) rfl dX11_keep_10 rfl ?_
  refine tc_V0 16 2 dX11_keep_13 lkv_X11_70 (tr1_2 hT3) rfl rfl (by decide) (Nat.le_of_ble_eq_true rfl) (c_Jx4a65c_size_8abf5 hT3 (add_lw hP (tv1_2 hT) hL.2.2.2.1)) ?_
  refine tj_iconst 17 dX11_keep_16 rfl ?_
  refine tj_isub 18 dX11_keep_17 rfl ?_
  exact ev_ireturn ⟨by rw [hP.2.2.2.2.1]; exact congrArg (fun z : Int => (Sum.inl (some (Value.int (J z))) : RT)) (by omega), α2, ν2, X2, hT3, hP⟩ rfl dX11_keep_18
def yF (k a0 a1 a2 a3 a4 : Int) : Nat → Int := fun j => if j = 9 then k else if j = 0 then a0 else if j = 1 then a1 else if j = 2 then a2 else if j = 3 then a3 else if j = 4 then a4 else 0
theorem yF_R {k a0 a1 a2 a3 a4 : Int} (h : R31 k ∧ R31 a0 ∧ R31 a1 ∧ R31 a2 ∧ R31 a3 ∧ R31 a4) : ∀ j, R31 (yF k a0 a1 a2 a3 a4 j) := fun j => by
  unfold yF
  by_cases c9 : j = 9
  · rw [if_pos c9]; exact h.1
  · rw [if_neg c9]
    by_cases c0 : j = 0
    · rw [if_pos c0]; exact h.2.1
    · rw [if_neg c0]
      by_cases c1 : j = 1
      · rw [if_pos c1]; exact h.2.2.1
      · rw [if_neg c1]
        by_cases c2 : j = 2
        · rw [if_pos c2]; exact h.2.2.2.1
        · rw [if_neg c2]
          by_cases c3 : j = 3
          · rw [if_pos c3]; exact h.2.2.2.2.1
          · rw [if_neg c3]
            by_cases c4 : j = 4
            · rw [if_pos c4]; exact h.2.2.2.2.2
            · rw [if_neg c4]; exact R31_0
set_option maxRecDepth 100000 in
set_option maxHeartbeats 4000000 in
theorem c_X11_markFormula_ok {g : Gt} {α : AL} {ν : Nat → Nat → Bool} {X : XM} {h : AH} (hT : TR g α ν X h) (hW : WX ν X) (hV : NV ν X) {c : Nat} (hc : (c : Int) < nC X) {a1 : Int} (ha1 : R31 a1) (h1 : 0 ≤ a1 ∧ a1 ≤ 100) (hm : nF X < 60) {n : Nat} (hn : nF X = (n : Int)) : Al g M_X11_markFormula 28 [.ref (α 0 0), .int (J (c : Int)), .int (J a1)] h 2 103 (some (.int (J (nF X)))) (MK α ν X (16, n) (fun _ _ => yF 0 0 c a1 0 0) 2 n) := by
  refine al_of rfl rfl (ls := [some (.ref (α 0 0)), some (.int (J (c : Int))), some (.int (J a1))]) rfl (Nat.le_of_ble_eq_true rfl) ?_
  show Ev g M_X11_markFormula 28 0 [some (.ref (α 0 0)), some (.int (J (c : Int))), some (.int (J a1))] [] h 2 103 (AQ g (some (.int (J (nF X)))) (MK α ν X (16, n) (fun _ _ => yF 0 0 c a1 0 0) 2 n))
  have q1 := wo_nC hW.1
  have q3 := wo_nS hW.1
  have qf := wo_nF hW.1
  have qr := wo_nR hW.1
  refine ev_ald0 1 dX11_markFormula_0 rfl ?_
  refine ev_ild1 2 dX11_markFormula_1 rfl ?_
  refine tc_V1 5 13 dX11_markFormula_2 lkv_X11_104 (tr0 hT) rfl rfl (by first | decide | omega) (Nat.le_of_ble_eq_true rfl) (c_X11_courseAt_ok hT hW (by omega)) ?_
  refine ev_pop 6 dX11_markFormula_5 rfl rfl ?_
  refine ev_ild2 7 dX11_markFormula_6 rfl ?_
  refine tcv_S1 10 dX11_markFormula_7 lks_X11_121 rfl (by first | decide | omega) (Nat.le_of_ble_eq_true rfl) (c_X11_checkMark_ok (by first | exact TR.rng hT _ _ _ | exact R31_of _ | exact bi_R _ | (constructor <;> omega)) (by omega)) ?_
  refine ev_ald0 11 dX11_markFormula_10 rfl ?_
  refine tj_iconst 12 dX11_markFormula_11 rfl ?_
  refine tcv_V1 15 13 dX11_markFormula_12 lkv_X11_124 (tr0 hT) rfl rfl (by first | decide | omega) (Nat.le_of_ble_eq_true rfl) (c_X11_checkFormulaFits_ok hT hW (by first | exact TR.rng hT _ _ _ | exact R31_of _ | exact bi_R _ | (constructor <;> omega)) (by first | omega | assumption)) ?_
  refine ev_ald0 16 dX11_markFormula_15 rfl ?_
  refine ev_mono (mc := 1 + 1) (ms := 100 + 3) (by omega) (by omega) ?_
  refine ev_new (fs := [.int 0, .int 0, .int 0]) 19 7 nw_X11_127 dX11_markFormula_16 rfl (fun q hq hgq => ?_)
  have hT1 := hT.up (c := .inr (7, [.int 0, .int 0, .int 0])) hq
  refine ev_dup 20 dX11_markFormula_19 rfl rfl ?_
  refine ev_ild1 21 dX11_markFormula_20 rfl ?_
  refine ev_ild2 22 dX11_markFormula_21 rfl ?_
  refine ev_mono (mc := 0 + 1) (ms := 0 + 100) (by omega) (by omega) ?_
  refine kv_init 25 lki_X11_129 (k_X5_init (hup_eq _ _ _) hgq) (by decide) rfl rfl (Nat.le_of_ble_eq_true rfl) dX11_markFormula_22 rfl (fun h2 K2 => ?_)
  have F := FR.of_KN hq K2
  obtain ⟨α1, hT2, hq2, hα⟩ := tn_formula (n := n) (y := yF 0 0 c a1 0 0) hT hV.1 (nv_16 hV hn) (by exact F) rfl (yF_R ⟨(by first | exact TR.rng hT _ _ _ | exact R31_of _ | exact bi_R _ | (constructor <;> omega)), (by first | exact TR.rng hT _ _ _ | exact R31_of _ | exact bi_R _ | (constructor <;> omega)), (by first | exact TR.rng hT _ _ _ | exact R31_of _ | exact bi_R _ | (constructor <;> omega)), (by first | exact TR.rng hT _ _ _ | exact R31_of _ | exact bi_R _ | (constructor <;> omega)), (by first | exact TR.rng hT _ _ _ | exact R31_of _ | exact bi_R _ | (constructor <;> omega)), (by first | exact TR.rng hT _ _ _ | exact R31_of _ | exact bi_R _ | (constructor <;> omega))⟩)
  have hC1 := clo_grow (G := (16, n)) (x := fun _ _ => yF 0 0 c a1 0 0) hV.1 (show (16 : Nat) ≠ 2 by decide) (fun z => by exact absurd z (show ¬ (16 : Nat) = 4 by decide)) (fun i z => by exact absurd (congrArg Prod.fst z) (gk_1x i (a := 16)))
  have hL1 := lw_grow (G := (16, n)) (x := fun _ _ => yF 0 0 c a1 0 0) (lw_i hT hW (show 2 < 4 by decide)) (show (16 : Nat) ≠ 2 by decide) (gk_ne (by show (0 : Nat) ≠ 16; decide))
  have hX1 : xG X (16, n) (fun _ _ => yF 0 0 c a1 0 0) 1 2 = X 1 2 := xG_ne (gk_ne (by show (0 : Nat) ≠ 16; decide))
  have hX2 : xG X (16, n) (fun _ _ => yF 0 0 c a1 0 0) 2 2 = X 2 2 := xG_ne (gk_ne (by show (2 : Nat) ≠ 16; decide))
  have hl0 : 0 ≤ xG X (16, n) (fun _ _ => yF 0 0 c a1 0 0) 1 2 2 := by rw [hX1]; show 0 ≤ nF X; omega
  have hcA := c_X11_keep (e := n) hT2 hC1 hL1 (by rw [hX1]; show nF X ≤ 60; omega) (fun z => by rw [hX1] at z; rw [hX2]; exact hV.2.2.2.2.2 2 (hV.1.2.2.2.1 2 (tv1_2 hT) z)) (tv16 hT2 (nuG_new ν (16, n))) (by omega)
  rw [hα 0 0 (gk_ne (by show (0 : Nat) ≠ 16; decide)), hq2] at hcA
  have hb2 := tr0 hT2
  rw [hα 0 0 (gk_ne (by show (0 : Nat) ≠ 16; decide))] at hb2
  refine ev_mono (mc := 1 + 0) (ms := 100 + 0) (by omega) (by omega) ?_
  refine ta_V1 28 13 dX11_markFormula_25 lkv_X11_132 hb2 rfl rfl (by decide) (Nat.le_of_ble_eq_true rfl) hcA (fun h3 α2 ν2 X2 hT3 hP => ?_)
  exact ev_ireturn ⟨by rw [hX1], α2, ν2, X2, hT3, α1, hα, hP⟩ rfl dX11_markFormula_28
set_option maxRecDepth 100000 in
set_option maxHeartbeats 4000000 in
theorem c_X11_togetherFormula_ok {g : Gt} {α : AL} {ν : Nat → Nat → Bool} {X : XM} {h : AH} (hT : TR g α ν X h) (hW : WX ν X) (hV : NV ν X) {c : Nat} (hc : (c : Int) < nC X) (hm : nF X < 60) {n : Nat} (hn : nF X = (n : Int)) : Al g M_X11_togetherFormula 28 [.ref (α 0 0), .int (J (c : Int))] h 2 102 (some (.int (J (nF X)))) (MK α ν X (16, n) (fun _ _ => yF 1 0 c 0 0 0) 2 n) := by
  refine al_of rfl rfl (ls := [some (.ref (α 0 0)), some (.int (J (c : Int)))]) rfl (Nat.le_of_ble_eq_true rfl) ?_
  show Ev g M_X11_togetherFormula 28 0 [some (.ref (α 0 0)), some (.int (J (c : Int)))] [] h 2 102 (AQ g (some (.int (J (nF X)))) (MK α ν X (16, n) (fun _ _ => yF 1 0 c 0 0 0) 2 n))
  have q1 := wo_nC hW.1
  have q3 := wo_nS hW.1
  have qf := wo_nF hW.1
  have qr := wo_nR hW.1
  refine ev_ald0 1 dX11_togetherFormula_0 rfl ?_
  refine ev_ild1 2 dX11_togetherFormula_1 rfl ?_
  refine tc_V1 5 13 dX11_togetherFormula_2 lkv_X11_104 (tr0 hT) rfl rfl (by first | decide | omega) (Nat.le_of_ble_eq_true rfl) (c_X11_courseAt_ok hT hW (by omega)) ?_
  refine ev_pop 6 dX11_togetherFormula_5 rfl rfl ?_
  refine ev_ald0 7 dX11_togetherFormula_6 rfl ?_
  refine tj_iconst 8 dX11_togetherFormula_7 rfl ?_
  refine tcv_V1 11 13 dX11_togetherFormula_8 lkv_X11_124 (tr0 hT) rfl rfl (by first | decide | omega) (Nat.le_of_ble_eq_true rfl) (c_X11_checkFormulaFits_ok hT hW (by first | exact TR.rng hT _ _ _ | exact R31_of _ | exact bi_R _ | (constructor <;> omega)) (by first | omega | assumption)) ?_
  refine ev_ald0 12 dX11_togetherFormula_11 rfl ?_
  refine ev_mono (mc := 1 + 1) (ms := 100 + 2) (by omega) (by omega) ?_
  refine ev_new (fs := [.int 0, .int 0]) 15 11 nw_X11_136 dX11_togetherFormula_12 rfl (fun q hq hgq => ?_)
  have hT1 := hT.up (c := .inr (11, [.int 0, .int 0])) hq
  refine ev_dup 16 dX11_togetherFormula_15 rfl rfl ?_
  refine ev_ild1 17 dX11_togetherFormula_16 rfl ?_
  refine ev_mono (mc := 0 + 1) (ms := 0 + 100) (by omega) (by omega) ?_
  refine kv_init 20 lki_X11_138 (k_X9_init (hup_eq _ _ _) hgq) (by decide) rfl rfl (Nat.le_of_ble_eq_true rfl) dX11_togetherFormula_17 rfl (fun h2 K2 => ?_)
  have F := FR.of_KN hq K2
  obtain ⟨α1, hT2, hq2, hα⟩ := tn_formula (n := n) (y := yF 1 0 c 0 0 0) hT hV.1 (nv_16 hV hn) (by exact F) rfl (yF_R ⟨(by first | exact TR.rng hT _ _ _ | exact R31_of _ | exact bi_R _ | (constructor <;> omega)), (by first | exact TR.rng hT _ _ _ | exact R31_of _ | exact bi_R _ | (constructor <;> omega)), (by first | exact TR.rng hT _ _ _ | exact R31_of _ | exact bi_R _ | (constructor <;> omega)), (by first | exact TR.rng hT _ _ _ | exact R31_of _ | exact bi_R _ | (constructor <;> omega)), (by first | exact TR.rng hT _ _ _ | exact R31_of _ | exact bi_R _ | (constructor <;> omega)), (by first | exact TR.rng hT _ _ _ | exact R31_of _ | exact bi_R _ | (constructor <;> omega))⟩)
  have hC1 := clo_grow (G := (16, n)) (x := fun _ _ => yF 1 0 c 0 0 0) hV.1 (show (16 : Nat) ≠ 2 by decide) (fun z => by exact absurd z (show ¬ (16 : Nat) = 4 by decide)) (fun i z => by exact absurd (congrArg Prod.fst z) (gk_1x i (a := 16)))
  have hL1 := lw_grow (G := (16, n)) (x := fun _ _ => yF 1 0 c 0 0 0) (lw_i hT hW (show 2 < 4 by decide)) (show (16 : Nat) ≠ 2 by decide) (gk_ne (by show (0 : Nat) ≠ 16; decide))
  have hX1 : xG X (16, n) (fun _ _ => yF 1 0 c 0 0 0) 1 2 = X 1 2 := xG_ne (gk_ne (by show (0 : Nat) ≠ 16; decide))
  have hX2 : xG X (16, n) (fun _ _ => yF 1 0 c 0 0 0) 2 2 = X 2 2 := xG_ne (gk_ne (by show (2 : Nat) ≠ 16; decide))
  have hl0 : 0 ≤ xG X (16, n) (fun _ _ => yF 1 0 c 0 0 0) 1 2 2 := by rw [hX1]; show 0 ≤ nF X; omega
  have hcA := c_X11_keep (e := n) hT2 hC1 hL1 (by rw [hX1]; show nF X ≤ 60; omega) (fun z => by rw [hX1] at z; rw [hX2]; exact hV.2.2.2.2.2 2 (hV.1.2.2.2.1 2 (tv1_2 hT) z)) (tv16 hT2 (nuG_new ν (16, n))) (by omega)
  rw [hα 0 0 (gk_ne (by show (0 : Nat) ≠ 16; decide)), hq2] at hcA
  have hb2 := tr0 hT2
  rw [hα 0 0 (gk_ne (by show (0 : Nat) ≠ 16; decide))] at hb2
  refine ev_mono (mc := 1 + 0) (ms := 100 + 0) (by omega) (by omega) ?_
  refine ta_V1 23 13 dX11_togetherFormula_20 lkv_X11_132 hb2 rfl rfl (by decide) (Nat.le_of_ble_eq_true rfl) hcA (fun h3 α2 ν2 X2 hT3 hP => ?_)
  exact ev_ireturn ⟨by rw [hX1], α2, ν2, X2, hT3, α1, hα, hP⟩ rfl dX11_togetherFormula_23
set_option maxRecDepth 100000 in
set_option maxHeartbeats 4000000 in
theorem c_X11_creditsFormula_ok {g : Gt} {α : AL} {ν : Nat → Nat → Bool} {X : XM} {h : AH} (hT : TR g α ν X h) (hW : WX ν X) (hV : NV ν X) {a0 : Int} (ha0 : R31 a0) (h0 : 0 ≤ a0 ∧ a0 ≤ 120) (hm : nF X < 60) {n : Nat} (hn : nF X = (n : Int)) : Al g M_X11_creditsFormula 28 [.ref (α 0 0), .int (J a0)] h 2 102 (some (.int (J (nF X)))) (MK α ν X (16, n) (fun _ _ => yF 2 0 a0 0 0 0) 2 n) := by
  refine al_of rfl rfl (ls := [some (.ref (α 0 0)), some (.int (J a0))]) rfl (Nat.le_of_ble_eq_true rfl) ?_
  show Ev g M_X11_creditsFormula 28 0 [some (.ref (α 0 0)), some (.int (J a0))] [] h 2 102 (AQ g (some (.int (J (nF X)))) (MK α ν X (16, n) (fun _ _ => yF 2 0 a0 0 0 0) 2 n))
  have q1 := wo_nC hW.1
  have q3 := wo_nS hW.1
  have qf := wo_nF hW.1
  have qr := wo_nR hW.1
  refine ev_ild1 1 dX11_creditsFormula_0 rfl ?_
  refine tj_iconst 2 dX11_creditsFormula_1 rfl ?_
  refine tj_bipush 4 dX11_creditsFormula_2 (by decide) rfl ?_
  refine tc_S3 7 dX11_creditsFormula_4 lks_X11_59 rfl (by first | decide | omega) (Nat.le_of_ble_eq_true rfl) (c_X11_isWithin (by first | exact TR.rng hT _ _ _ | exact R31_of _ | exact bi_R _ | (constructor <;> omega)) (by first | exact TR.rng hT _ _ _ | exact R31_of _ | exact bi_R _ | (constructor <;> omega)) (by first | exact TR.rng hT _ _ _ | exact R31_of _ | exact bi_R _ | (constructor <;> omega))) ?_
  refine tb_if_ne 20 10 dX11_creditsFormula_7 (by decide) rfl (fun c7 => ?_) (fun c7 => ?_)
  · skip
    refine ev_ald0 21 dX11_creditsFormula_20 rfl ?_
    refine tj_iconst 22 dX11_creditsFormula_21 rfl ?_
    refine tcv_V1 25 13 dX11_creditsFormula_22 lkv_X11_124 (tr0 hT) rfl rfl (by first | decide | omega) (Nat.le_of_ble_eq_true rfl) (c_X11_checkFormulaFits_ok hT hW (by first | exact TR.rng hT _ _ _ | exact R31_of _ | exact bi_R _ | (constructor <;> omega)) (by first | omega | assumption)) ?_
    refine ev_ald0 26 dX11_creditsFormula_25 rfl ?_
    refine ev_mono (mc := 1 + 1) (ms := 100 + 2) (by omega) (by omega) ?_
    refine ev_new (fs := [.int 0, .int 0]) 29 6 nw_X11_141 dX11_creditsFormula_26 rfl (fun q hq hgq => ?_)
    have hT1 := hT.up (c := .inr (6, [.int 0, .int 0])) hq
    refine ev_dup 30 dX11_creditsFormula_29 rfl rfl ?_
    refine ev_ild1 31 dX11_creditsFormula_30 rfl ?_
    refine ev_mono (mc := 0 + 1) (ms := 0 + 100) (by omega) (by omega) ?_
    refine kv_init 34 lki_X11_143 (k_X3_init (hup_eq _ _ _) hgq) (by decide) rfl rfl (Nat.le_of_ble_eq_true rfl) dX11_creditsFormula_31 rfl (fun h2 K2 => ?_)
    have F := FR.of_KN hq K2
    obtain ⟨α1, hT2, hq2, hα⟩ := tn_formula (n := n) (y := yF 2 0 a0 0 0 0) hT hV.1 (nv_16 hV hn) (by exact F) rfl (yF_R ⟨(by first | exact TR.rng hT _ _ _ | exact R31_of _ | exact bi_R _ | (constructor <;> omega)), (by first | exact TR.rng hT _ _ _ | exact R31_of _ | exact bi_R _ | (constructor <;> omega)), (by first | exact TR.rng hT _ _ _ | exact R31_of _ | exact bi_R _ | (constructor <;> omega)), (by first | exact TR.rng hT _ _ _ | exact R31_of _ | exact bi_R _ | (constructor <;> omega)), (by first | exact TR.rng hT _ _ _ | exact R31_of _ | exact bi_R _ | (constructor <;> omega)), (by first | exact TR.rng hT _ _ _ | exact R31_of _ | exact bi_R _ | (constructor <;> omega))⟩)
    have hC1 := clo_grow (G := (16, n)) (x := fun _ _ => yF 2 0 a0 0 0 0) hV.1 (show (16 : Nat) ≠ 2 by decide) (fun z => by exact absurd z (show ¬ (16 : Nat) = 4 by decide)) (fun i z => by exact absurd (congrArg Prod.fst z) (gk_1x i (a := 16)))
    have hL1 := lw_grow (G := (16, n)) (x := fun _ _ => yF 2 0 a0 0 0 0) (lw_i hT hW (show 2 < 4 by decide)) (show (16 : Nat) ≠ 2 by decide) (gk_ne (by show (0 : Nat) ≠ 16; decide))
    have hX1 : xG X (16, n) (fun _ _ => yF 2 0 a0 0 0 0) 1 2 = X 1 2 := xG_ne (gk_ne (by show (0 : Nat) ≠ 16; decide))
    have hX2 : xG X (16, n) (fun _ _ => yF 2 0 a0 0 0 0) 2 2 = X 2 2 := xG_ne (gk_ne (by show (2 : Nat) ≠ 16; decide))
    have hl0 : 0 ≤ xG X (16, n) (fun _ _ => yF 2 0 a0 0 0 0) 1 2 2 := by rw [hX1]; show 0 ≤ nF X; omega
    have hcA := c_X11_keep (e := n) hT2 hC1 hL1 (by rw [hX1]; show nF X ≤ 60; omega) (fun z => by rw [hX1] at z; rw [hX2]; exact hV.2.2.2.2.2 2 (hV.1.2.2.2.1 2 (tv1_2 hT) z)) (tv16 hT2 (nuG_new ν (16, n))) (by omega)
    rw [hα 0 0 (gk_ne (by show (0 : Nat) ≠ 16; decide)), hq2] at hcA
    have hb2 := tr0 hT2
    rw [hα 0 0 (gk_ne (by show (0 : Nat) ≠ 16; decide))] at hb2
    refine ev_mono (mc := 1 + 0) (ms := 100 + 0) (by omega) (by omega) ?_
    refine ta_V1 37 13 dX11_creditsFormula_34 lkv_X11_132 hb2 rfl rfl (by decide) (Nat.le_of_ble_eq_true rfl) hcA (fun h3 α2 ν2 X2 hT3 hP => ?_)
    exact ev_ireturn ⟨by rw [hX1], α2, ν2, X2, hT3, α1, hα, hP⟩ rfl dX11_creditsFormula_37
  · exact False.elim ((of_decide_eq_false c7) h0)
set_option maxRecDepth 100000 in
set_option maxHeartbeats 4000000 in
theorem c_X11_allFormula_ok {g : Gt} {α : AL} {ν : Nat → Nat → Bool} {X : XM} {h : AH} (hT : TR g α ν X h) (hW : WX ν X) (hV : NV ν X) {f : Nat} (hf : (f : Int) < nF X) {f2 : Nat} (hf2 : (f2 : Int) < nF X) (hm : nF X < 60 ∧ 1 + mxI (X 16 f 0) (X 16 f2 0) ≤ 5) {n : Nat} (hn : nF X = (n : Int)) : Al g M_X11_allFormula 28 [.ref (α 0 0), .int (J (f : Int)), .int (J (f2 : Int))] h 2 105 (some (.int (J (nF X)))) (MK α ν X (16, n) (fun _ _ => yF 3 (1 + mxI (X 16 f 0) (X 16 f2 0)) 2 f f2 (-1)) 2 n) := by
  refine al_of rfl rfl (ls := [some (.ref (α 0 0)), some (.int (J (f : Int))), some (.int (J (f2 : Int))), none]) rfl (Nat.le_of_ble_eq_true rfl) ?_
  show Ev g M_X11_allFormula 28 0 [some (.ref (α 0 0)), some (.int (J (f : Int))), some (.int (J (f2 : Int))), none] [] h 2 105 (AQ g (some (.int (J (nF X)))) (MK α ν X (16, n) (fun _ _ => yF 3 (1 + mxI (X 16 f 0) (X 16 f2 0)) 2 f f2 (-1)) 2 n))
  have q1 := wo_nC hW.1
  have q3 := wo_nS hW.1
  have qf := wo_nF hW.1
  have qr := wo_nR hW.1
  have qd1 := wo_dep hW.1 f hf
  have qd2 := wo_dep hW.1 f2 hf2
  have qm := mxI_ge (X 16 f 0) (X 16 f2 0)
  refine tj_iconst 1 dX11_allFormula_0 rfl ?_
  refine ev_ald0 2 dX11_allFormula_1 rfl ?_
  refine ev_ild1 3 dX11_allFormula_2 rfl ?_
  refine tc_V1 6 13 dX11_allFormula_3 lkv_X11_144 (tr0 hT) rfl rfl (by first | decide | omega) (Nat.le_of_ble_eq_true rfl) (c_X11_formulaAt_ok hT hW (by omega)) ?_
  refine tv_depth 9 hT (by first | assumption | exact wx_frm hW (by omega)) fl_X11_148_4 fl_X11_148_6 fl_X11_148_7 fl_X11_148_8 fl_X11_148_11 dX11_allFormula_6 rfl ?_
  refine ev_ald0 10 dX11_allFormula_9 rfl ?_
  refine ev_ild2 11 dX11_allFormula_10 rfl ?_
  refine tc_V1 14 13 dX11_allFormula_11 lkv_X11_144 (tr0 hT) rfl rfl (by first | decide | omega) (Nat.le_of_ble_eq_true rfl) (c_X11_formulaAt_ok hT hW (by omega)) ?_
  refine tv_depth 17 hT (by first | assumption | exact wx_frm hW (by omega)) fl_X11_148_4 fl_X11_148_6 fl_X11_148_7 fl_X11_148_8 fl_X11_148_11 dX11_allFormula_14 rfl ?_
  refine tj_mmax 20 dX11_allFormula_17 mmax_X11_153 (by decide) (Nat.le_of_ble_eq_true rfl) rfl (by first | exact TR.rng hT _ _ _ | exact R31_of _ | exact bi_R _ | (constructor <;> omega)) (by first | exact TR.rng hT _ _ _ | exact R31_of _ | exact bi_R _ | (constructor <;> omega)) ?_
  refine tj_iadd 21 dX11_allFormula_20 rfl ?_
  refine ev_ist3 22 dX11_allFormula_21 rfl (by decide) rfl ?_
  refine ev_ald0 23 dX11_allFormula_22 rfl ?_
  refine ev_ild3 24 dX11_allFormula_23 rfl ?_
  refine tcv_V1 27 13 dX11_allFormula_24 lkv_X11_124 (tr0 hT) rfl rfl (by first | decide | omega) (Nat.le_of_ble_eq_true rfl) (c_X11_checkFormulaFits_ok hT hW (show R31 (1 + mxI (X 16 f 0) (X 16 f2 0)) from ⟨by omega, by omega⟩) hm) ?_
  refine ev_ald0 28 dX11_allFormula_27 rfl ?_
  refine ev_mono (mc := 1 + 1) (ms := 100 + 5) (by omega) (by omega) ?_
  refine ev_new (fs := [.int 0, .int 0, .int 0, .int 0, .int 0]) 31 4 nw_X11_159 dX11_allFormula_28 rfl (fun q hq hgq => ?_)
  have hT1 := hT.up (c := .inr (4, [.int 0, .int 0, .int 0, .int 0, .int 0])) hq
  refine ev_dup 32 dX11_allFormula_31 rfl rfl ?_
  refine ev_ild3 33 dX11_allFormula_32 rfl ?_
  refine tj_iconst 34 dX11_allFormula_33 rfl ?_
  refine ev_ild1 35 dX11_allFormula_34 rfl ?_
  refine ev_ild2 36 dX11_allFormula_35 rfl ?_
  refine tj_iconst 37 dX11_allFormula_36 rfl ?_
  refine ev_mono (mc := 0 + 1) (ms := 0 + 100) (by omega) (by omega) ?_
  refine kv_init 40 lki_X11_161 (k_X1_init (hup_eq _ _ _) hgq) (by decide) rfl rfl (Nat.le_of_ble_eq_true rfl) dX11_allFormula_37 rfl (fun h2 K2 => ?_)
  have F := FR.of_KN hq K2
  obtain ⟨α1, hT2, hq2, hα⟩ := tn_formula (n := n) (y := yF 3 (1 + mxI (X 16 f 0) (X 16 f2 0)) 2 f f2 (-1)) hT hV.1 (nv_16 hV hn) (by exact F) rfl (yF_R ⟨(by first | exact TR.rng hT _ _ _ | exact R31_of _ | exact bi_R _ | (constructor <;> omega)), (by first | exact TR.rng hT _ _ _ | exact R31_of _ | exact bi_R _ | (constructor <;> omega)), (by first | exact TR.rng hT _ _ _ | exact R31_of _ | exact bi_R _ | (constructor <;> omega)), (by first | exact TR.rng hT _ _ _ | exact R31_of _ | exact bi_R _ | (constructor <;> omega)), (by first | exact TR.rng hT _ _ _ | exact R31_of _ | exact bi_R _ | (constructor <;> omega)), (by first | exact TR.rng hT _ _ _ | exact R31_of _ | exact bi_R _ | (constructor <;> omega))⟩)
  have hC1 := clo_grow (G := (16, n)) (x := fun _ _ => yF 3 (1 + mxI (X 16 f 0) (X 16 f2 0)) 2 f f2 (-1)) hV.1 (show (16 : Nat) ≠ 2 by decide) (fun z => by exact absurd z (show ¬ (16 : Nat) = 4 by decide)) (fun i z => by exact absurd (congrArg Prod.fst z) (gk_1x i (a := 16)))
  have hL1 := lw_grow (G := (16, n)) (x := fun _ _ => yF 3 (1 + mxI (X 16 f 0) (X 16 f2 0)) 2 f f2 (-1)) (lw_i hT hW (show 2 < 4 by decide)) (show (16 : Nat) ≠ 2 by decide) (gk_ne (by show (0 : Nat) ≠ 16; decide))
  have hX1 : xG X (16, n) (fun _ _ => yF 3 (1 + mxI (X 16 f 0) (X 16 f2 0)) 2 f f2 (-1)) 1 2 = X 1 2 := xG_ne (gk_ne (by show (0 : Nat) ≠ 16; decide))
  have hX2 : xG X (16, n) (fun _ _ => yF 3 (1 + mxI (X 16 f 0) (X 16 f2 0)) 2 f f2 (-1)) 2 2 = X 2 2 := xG_ne (gk_ne (by show (2 : Nat) ≠ 16; decide))
  have hl0 : 0 ≤ xG X (16, n) (fun _ _ => yF 3 (1 + mxI (X 16 f 0) (X 16 f2 0)) 2 f f2 (-1)) 1 2 2 := by rw [hX1]; show 0 ≤ nF X; omega
  have hcA := c_X11_keep (e := n) hT2 hC1 hL1 (by rw [hX1]; show nF X ≤ 60; omega) (fun z => by rw [hX1] at z; rw [hX2]; exact hV.2.2.2.2.2 2 (hV.1.2.2.2.1 2 (tv1_2 hT) z)) (tv16 hT2 (nuG_new ν (16, n))) (by omega)
  rw [hα 0 0 (gk_ne (by show (0 : Nat) ≠ 16; decide)), hq2] at hcA
  have hb2 := tr0 hT2
  rw [hα 0 0 (gk_ne (by show (0 : Nat) ≠ 16; decide))] at hb2
  refine ev_mono (mc := 1 + 0) (ms := 100 + 0) (by omega) (by omega) ?_
  refine ta_V1 43 13 dX11_allFormula_40 lkv_X11_132 hb2 rfl rfl (by decide) (Nat.le_of_ble_eq_true rfl) hcA (fun h3 α2 ν2 X2 hT3 hP => ?_)
  exact ev_ireturn ⟨by rw [hX1], α2, ν2, X2, hT3, α1, hα, hP⟩ rfl dX11_allFormula_43
set_option maxRecDepth 100000 in
set_option maxHeartbeats 4000000 in
theorem c_X11_anyFormula_ok {g : Gt} {α : AL} {ν : Nat → Nat → Bool} {X : XM} {h : AH} (hT : TR g α ν X h) (hW : WX ν X) (hV : NV ν X) {f : Nat} (hf : (f : Int) < nF X) {f2 : Nat} (hf2 : (f2 : Int) < nF X) (hm : nF X < 60 ∧ 1 + mxI (X 16 f 0) (X 16 f2 0) ≤ 5) {n : Nat} (hn : nF X = (n : Int)) : Al g M_X11_anyFormula 28 [.ref (α 0 0), .int (J (f : Int)), .int (J (f2 : Int))] h 2 105 (some (.int (J (nF X)))) (MK α ν X (16, n) (fun _ _ => yF 3 (1 + mxI (X 16 f 0) (X 16 f2 0)) 1 f f2 (-1)) 2 n) := by
  refine al_of rfl rfl (ls := [some (.ref (α 0 0)), some (.int (J (f : Int))), some (.int (J (f2 : Int))), none]) rfl (Nat.le_of_ble_eq_true rfl) ?_
  show Ev g M_X11_anyFormula 28 0 [some (.ref (α 0 0)), some (.int (J (f : Int))), some (.int (J (f2 : Int))), none] [] h 2 105 (AQ g (some (.int (J (nF X)))) (MK α ν X (16, n) (fun _ _ => yF 3 (1 + mxI (X 16 f 0) (X 16 f2 0)) 1 f f2 (-1)) 2 n))
  have q1 := wo_nC hW.1
  have q3 := wo_nS hW.1
  have qf := wo_nF hW.1
  have qr := wo_nR hW.1
  have qd1 := wo_dep hW.1 f hf
  have qd2 := wo_dep hW.1 f2 hf2
  have qm := mxI_ge (X 16 f 0) (X 16 f2 0)
  refine tj_iconst 1 dX11_anyFormula_0 rfl ?_
  refine ev_ald0 2 dX11_anyFormula_1 rfl ?_
  refine ev_ild1 3 dX11_anyFormula_2 rfl ?_
  refine tc_V1 6 13 dX11_anyFormula_3 lkv_X11_144 (tr0 hT) rfl rfl (by first | decide | omega) (Nat.le_of_ble_eq_true rfl) (c_X11_formulaAt_ok hT hW (by omega)) ?_
  refine tv_depth 9 hT (by first | assumption | exact wx_frm hW (by omega)) fl_X11_148_4 fl_X11_148_6 fl_X11_148_7 fl_X11_148_8 fl_X11_148_11 dX11_anyFormula_6 rfl ?_
  refine ev_ald0 10 dX11_anyFormula_9 rfl ?_
  refine ev_ild2 11 dX11_anyFormula_10 rfl ?_
  refine tc_V1 14 13 dX11_anyFormula_11 lkv_X11_144 (tr0 hT) rfl rfl (by first | decide | omega) (Nat.le_of_ble_eq_true rfl) (c_X11_formulaAt_ok hT hW (by omega)) ?_
  refine tv_depth 17 hT (by first | assumption | exact wx_frm hW (by omega)) fl_X11_148_4 fl_X11_148_6 fl_X11_148_7 fl_X11_148_8 fl_X11_148_11 dX11_anyFormula_14 rfl ?_
  refine tj_mmax 20 dX11_anyFormula_17 mmax_X11_153 (by decide) (Nat.le_of_ble_eq_true rfl) rfl (by first | exact TR.rng hT _ _ _ | exact R31_of _ | exact bi_R _ | (constructor <;> omega)) (by first | exact TR.rng hT _ _ _ | exact R31_of _ | exact bi_R _ | (constructor <;> omega)) ?_
  refine tj_iadd 21 dX11_anyFormula_20 rfl ?_
  refine ev_ist3 22 dX11_anyFormula_21 rfl (by decide) rfl ?_
  refine ev_ald0 23 dX11_anyFormula_22 rfl ?_
  refine ev_ild3 24 dX11_anyFormula_23 rfl ?_
  refine tcv_V1 27 13 dX11_anyFormula_24 lkv_X11_124 (tr0 hT) rfl rfl (by first | decide | omega) (Nat.le_of_ble_eq_true rfl) (c_X11_checkFormulaFits_ok hT hW (show R31 (1 + mxI (X 16 f 0) (X 16 f2 0)) from ⟨by omega, by omega⟩) hm) ?_
  refine ev_ald0 28 dX11_anyFormula_27 rfl ?_
  refine ev_mono (mc := 1 + 1) (ms := 100 + 5) (by omega) (by omega) ?_
  refine ev_new (fs := [.int 0, .int 0, .int 0, .int 0, .int 0]) 31 4 nw_X11_159 dX11_anyFormula_28 rfl (fun q hq hgq => ?_)
  have hT1 := hT.up (c := .inr (4, [.int 0, .int 0, .int 0, .int 0, .int 0])) hq
  refine ev_dup 32 dX11_anyFormula_31 rfl rfl ?_
  refine ev_ild3 33 dX11_anyFormula_32 rfl ?_
  refine tj_iconst 34 dX11_anyFormula_33 rfl ?_
  refine ev_ild1 35 dX11_anyFormula_34 rfl ?_
  refine ev_ild2 36 dX11_anyFormula_35 rfl ?_
  refine tj_iconst 37 dX11_anyFormula_36 rfl ?_
  refine ev_mono (mc := 0 + 1) (ms := 0 + 100) (by omega) (by omega) ?_
  refine kv_init 40 lki_X11_161 (k_X1_init (hup_eq _ _ _) hgq) (by decide) rfl rfl (Nat.le_of_ble_eq_true rfl) dX11_anyFormula_37 rfl (fun h2 K2 => ?_)
  have F := FR.of_KN hq K2
  obtain ⟨α1, hT2, hq2, hα⟩ := tn_formula (n := n) (y := yF 3 (1 + mxI (X 16 f 0) (X 16 f2 0)) 1 f f2 (-1)) hT hV.1 (nv_16 hV hn) (by exact F) rfl (yF_R ⟨(by first | exact TR.rng hT _ _ _ | exact R31_of _ | exact bi_R _ | (constructor <;> omega)), (by first | exact TR.rng hT _ _ _ | exact R31_of _ | exact bi_R _ | (constructor <;> omega)), (by first | exact TR.rng hT _ _ _ | exact R31_of _ | exact bi_R _ | (constructor <;> omega)), (by first | exact TR.rng hT _ _ _ | exact R31_of _ | exact bi_R _ | (constructor <;> omega)), (by first | exact TR.rng hT _ _ _ | exact R31_of _ | exact bi_R _ | (constructor <;> omega)), (by first | exact TR.rng hT _ _ _ | exact R31_of _ | exact bi_R _ | (constructor <;> omega))⟩)
  have hC1 := clo_grow (G := (16, n)) (x := fun _ _ => yF 3 (1 + mxI (X 16 f 0) (X 16 f2 0)) 1 f f2 (-1)) hV.1 (show (16 : Nat) ≠ 2 by decide) (fun z => by exact absurd z (show ¬ (16 : Nat) = 4 by decide)) (fun i z => by exact absurd (congrArg Prod.fst z) (gk_1x i (a := 16)))
  have hL1 := lw_grow (G := (16, n)) (x := fun _ _ => yF 3 (1 + mxI (X 16 f 0) (X 16 f2 0)) 1 f f2 (-1)) (lw_i hT hW (show 2 < 4 by decide)) (show (16 : Nat) ≠ 2 by decide) (gk_ne (by show (0 : Nat) ≠ 16; decide))
  have hX1 : xG X (16, n) (fun _ _ => yF 3 (1 + mxI (X 16 f 0) (X 16 f2 0)) 1 f f2 (-1)) 1 2 = X 1 2 := xG_ne (gk_ne (by show (0 : Nat) ≠ 16; decide))
  have hX2 : xG X (16, n) (fun _ _ => yF 3 (1 + mxI (X 16 f 0) (X 16 f2 0)) 1 f f2 (-1)) 2 2 = X 2 2 := xG_ne (gk_ne (by show (2 : Nat) ≠ 16; decide))
  have hl0 : 0 ≤ xG X (16, n) (fun _ _ => yF 3 (1 + mxI (X 16 f 0) (X 16 f2 0)) 1 f f2 (-1)) 1 2 2 := by rw [hX1]; show 0 ≤ nF X; omega
  have hcA := c_X11_keep (e := n) hT2 hC1 hL1 (by rw [hX1]; show nF X ≤ 60; omega) (fun z => by rw [hX1] at z; rw [hX2]; exact hV.2.2.2.2.2 2 (hV.1.2.2.2.1 2 (tv1_2 hT) z)) (tv16 hT2 (nuG_new ν (16, n))) (by omega)
  rw [hα 0 0 (gk_ne (by show (0 : Nat) ≠ 16; decide)), hq2] at hcA
  have hb2 := tr0 hT2
  rw [hα 0 0 (gk_ne (by show (0 : Nat) ≠ 16; decide))] at hb2
  refine ev_mono (mc := 1 + 0) (ms := 100 + 0) (by omega) (by omega) ?_
  refine ta_V1 43 13 dX11_anyFormula_40 lkv_X11_132 hb2 rfl rfl (by decide) (Nat.le_of_ble_eq_true rfl) hcA (fun h3 α2 ν2 X2 hT3 hP => ?_)
  exact ev_ireturn ⟨by rw [hX1], α2, ν2, X2, hT3, α1, hα, hP⟩ rfl dX11_anyFormula_43
set_option maxRecDepth 100000 in
set_option maxHeartbeats 4000000 in
theorem c_X11_twoFormula_ok {g : Gt} {α : AL} {ν : Nat → Nat → Bool} {X : XM} {h : AH} (hT : TR g α ν X h) (hW : WX ν X) (hV : NV ν X) {f : Nat} (hf : (f : Int) < nF X) {f2 : Nat} (hf2 : (f2 : Int) < nF X) {f3 : Nat} (hf3 : (f3 : Int) < nF X) (hm : nF X < 60 ∧ 1 + mxI (mxI (X 16 f 0) (X 16 f2 0)) (X 16 f3 0) ≤ 5) {n : Nat} (hn : nF X = (n : Int)) : Al g M_X11_twoFormula 28 [.ref (α 0 0), .int (J (f : Int)), .int (J (f2 : Int)), .int (J (f3 : Int))] h 2 105 (some (.int (J (nF X)))) (MK α ν X (16, n) (fun _ _ => yF 3 (1 + mxI (mxI (X 16 f 0) (X 16 f2 0)) (X 16 f3 0)) 2 f f2 f3) 2 n) := by
  refine al_of rfl rfl (ls := [some (.ref (α 0 0)), some (.int (J (f : Int))), some (.int (J (f2 : Int))), some (.int (J (f3 : Int))), none, none]) rfl (Nat.le_of_ble_eq_true rfl) ?_
  show Ev g M_X11_twoFormula 28 0 [some (.ref (α 0 0)), some (.int (J (f : Int))), some (.int (J (f2 : Int))), some (.int (J (f3 : Int))), none, none] [] h 2 105 (AQ g (some (.int (J (nF X)))) (MK α ν X (16, n) (fun _ _ => yF 3 (1 + mxI (mxI (X 16 f 0) (X 16 f2 0)) (X 16 f3 0)) 2 f f2 f3) 2 n))
  have q1 := wo_nC hW.1
  have q3 := wo_nS hW.1
  have qf := wo_nF hW.1
  have qr := wo_nR hW.1
  have qd1 := wo_dep hW.1 f hf
  have qd2 := wo_dep hW.1 f2 hf2
  have qm := mxI_ge (X 16 f 0) (X 16 f2 0)
  have qd3 := wo_dep hW.1 f3 hf3
  have qm2 := mxI_ge (mxI (X 16 f 0) (X 16 f2 0)) (X 16 f3 0)
  refine ev_ald0 1 dX11_twoFormula_0 rfl ?_
  refine ev_ild1 2 dX11_twoFormula_1 rfl ?_
  refine tc_V1 5 13 dX11_twoFormula_2 lkv_X11_144 (tr0 hT) rfl rfl (by first | decide | omega) (Nat.le_of_ble_eq_true rfl) (c_X11_formulaAt_ok hT hW (by omega)) ?_
  refine tv_depth 8 hT (by first | assumption | exact wx_frm hW (by omega)) fl_X11_148_4 fl_X11_148_6 fl_X11_148_7 fl_X11_148_8 fl_X11_148_11 dX11_twoFormula_5 rfl ?_
  refine ev_ald0 9 dX11_twoFormula_8 rfl ?_
  refine ev_ild2 10 dX11_twoFormula_9 rfl ?_
  refine tc_V1 13 13 dX11_twoFormula_10 lkv_X11_144 (tr0 hT) rfl rfl (by first | decide | omega) (Nat.le_of_ble_eq_true rfl) (c_X11_formulaAt_ok hT hW (by omega)) ?_
  refine tv_depth 16 hT (by first | assumption | exact wx_frm hW (by omega)) fl_X11_148_4 fl_X11_148_6 fl_X11_148_7 fl_X11_148_8 fl_X11_148_11 dX11_twoFormula_13 rfl ?_
  refine tj_mmax 19 dX11_twoFormula_16 mmax_X11_153 (by decide) (Nat.le_of_ble_eq_true rfl) rfl (by first | exact TR.rng hT _ _ _ | exact R31_of _ | exact bi_R _ | (constructor <;> omega)) (by first | exact TR.rng hT _ _ _ | exact R31_of _ | exact bi_R _ | (constructor <;> omega)) ?_
  refine ev_ist4 21 dX11_twoFormula_19 rfl (by decide) rfl ?_
  refine tj_iconst 22 dX11_twoFormula_21 rfl ?_
  refine ev_ild4 24 dX11_twoFormula_22 rfl ?_
  refine ev_ald0 25 dX11_twoFormula_24 rfl ?_
  refine ev_ild3 26 dX11_twoFormula_25 rfl ?_
  refine tc_V1 29 13 dX11_twoFormula_26 lkv_X11_144 (tr0 hT) rfl rfl (by first | decide | omega) (Nat.le_of_ble_eq_true rfl) (c_X11_formulaAt_ok hT hW (by omega)) ?_
  refine tv_depth 32 hT (by first | assumption | exact wx_frm hW (by omega)) fl_X11_148_4 fl_X11_148_6 fl_X11_148_7 fl_X11_148_8 fl_X11_148_11 dX11_twoFormula_29 rfl ?_
  refine tj_mmax 35 dX11_twoFormula_32 mmax_X11_153 (by decide) (Nat.le_of_ble_eq_true rfl) rfl (by first | exact TR.rng hT _ _ _ | exact R31_of _ | exact bi_R _ | (constructor <;> omega)) (by first | exact TR.rng hT _ _ _ | exact R31_of _ | exact bi_R _ | (constructor <;> omega)) ?_
  refine tj_iadd 36 dX11_twoFormula_35 rfl ?_
  refine ev_ist5 38 dX11_twoFormula_36 rfl (by decide) rfl ?_
  refine ev_ald0 39 dX11_twoFormula_38 rfl ?_
  refine ev_ild5 41 dX11_twoFormula_39 rfl ?_
  refine tcv_V1 44 13 dX11_twoFormula_41 lkv_X11_124 (tr0 hT) rfl rfl (by first | decide | omega) (Nat.le_of_ble_eq_true rfl) (c_X11_checkFormulaFits_ok hT hW (show R31 (1 + mxI (mxI (X 16 f 0) (X 16 f2 0)) (X 16 f3 0)) from ⟨by omega, by omega⟩) hm) ?_
  refine ev_ald0 45 dX11_twoFormula_44 rfl ?_
  refine ev_mono (mc := 1 + 1) (ms := 100 + 5) (by omega) (by omega) ?_
  refine ev_new (fs := [.int 0, .int 0, .int 0, .int 0, .int 0]) 48 4 nw_X11_159 dX11_twoFormula_45 rfl (fun q hq hgq => ?_)
  have hT1 := hT.up (c := .inr (4, [.int 0, .int 0, .int 0, .int 0, .int 0])) hq
  refine ev_dup 49 dX11_twoFormula_48 rfl rfl ?_
  refine ev_ild5 51 dX11_twoFormula_49 rfl ?_
  refine tj_iconst 52 dX11_twoFormula_51 rfl ?_
  refine ev_ild1 53 dX11_twoFormula_52 rfl ?_
  refine ev_ild2 54 dX11_twoFormula_53 rfl ?_
  refine ev_ild3 55 dX11_twoFormula_54 rfl ?_
  refine ev_mono (mc := 0 + 1) (ms := 0 + 100) (by omega) (by omega) ?_
  refine kv_init 58 lki_X11_161 (k_X1_init (hup_eq _ _ _) hgq) (by decide) rfl rfl (Nat.le_of_ble_eq_true rfl) dX11_twoFormula_55 rfl (fun h2 K2 => ?_)
  have F := FR.of_KN hq K2
  obtain ⟨α1, hT2, hq2, hα⟩ := tn_formula (n := n) (y := yF 3 (1 + mxI (mxI (X 16 f 0) (X 16 f2 0)) (X 16 f3 0)) 2 f f2 f3) hT hV.1 (nv_16 hV hn) (by exact F) rfl (yF_R ⟨(by first | exact TR.rng hT _ _ _ | exact R31_of _ | exact bi_R _ | (constructor <;> omega)), (by first | exact TR.rng hT _ _ _ | exact R31_of _ | exact bi_R _ | (constructor <;> omega)), (by first | exact TR.rng hT _ _ _ | exact R31_of _ | exact bi_R _ | (constructor <;> omega)), (by first | exact TR.rng hT _ _ _ | exact R31_of _ | exact bi_R _ | (constructor <;> omega)), (by first | exact TR.rng hT _ _ _ | exact R31_of _ | exact bi_R _ | (constructor <;> omega)), (by first | exact TR.rng hT _ _ _ | exact R31_of _ | exact bi_R _ | (constructor <;> omega))⟩)
  have hC1 := clo_grow (G := (16, n)) (x := fun _ _ => yF 3 (1 + mxI (mxI (X 16 f 0) (X 16 f2 0)) (X 16 f3 0)) 2 f f2 f3) hV.1 (show (16 : Nat) ≠ 2 by decide) (fun z => by exact absurd z (show ¬ (16 : Nat) = 4 by decide)) (fun i z => by exact absurd (congrArg Prod.fst z) (gk_1x i (a := 16)))
  have hL1 := lw_grow (G := (16, n)) (x := fun _ _ => yF 3 (1 + mxI (mxI (X 16 f 0) (X 16 f2 0)) (X 16 f3 0)) 2 f f2 f3) (lw_i hT hW (show 2 < 4 by decide)) (show (16 : Nat) ≠ 2 by decide) (gk_ne (by show (0 : Nat) ≠ 16; decide))
  have hX1 : xG X (16, n) (fun _ _ => yF 3 (1 + mxI (mxI (X 16 f 0) (X 16 f2 0)) (X 16 f3 0)) 2 f f2 f3) 1 2 = X 1 2 := xG_ne (gk_ne (by show (0 : Nat) ≠ 16; decide))
  have hX2 : xG X (16, n) (fun _ _ => yF 3 (1 + mxI (mxI (X 16 f 0) (X 16 f2 0)) (X 16 f3 0)) 2 f f2 f3) 2 2 = X 2 2 := xG_ne (gk_ne (by show (2 : Nat) ≠ 16; decide))
  have hl0 : 0 ≤ xG X (16, n) (fun _ _ => yF 3 (1 + mxI (mxI (X 16 f 0) (X 16 f2 0)) (X 16 f3 0)) 2 f f2 f3) 1 2 2 := by rw [hX1]; show 0 ≤ nF X; omega
  have hcA := c_X11_keep (e := n) hT2 hC1 hL1 (by rw [hX1]; show nF X ≤ 60; omega) (fun z => by rw [hX1] at z; rw [hX2]; exact hV.2.2.2.2.2 2 (hV.1.2.2.2.1 2 (tv1_2 hT) z)) (tv16 hT2 (nuG_new ν (16, n))) (by omega)
  rw [hα 0 0 (gk_ne (by show (0 : Nat) ≠ 16; decide)), hq2] at hcA
  have hb2 := tr0 hT2
  rw [hα 0 0 (gk_ne (by show (0 : Nat) ≠ 16; decide))] at hb2
  refine ev_mono (mc := 1 + 0) (ms := 100 + 0) (by omega) (by omega) ?_
  refine ta_V1 61 13 dX11_twoFormula_58 lkv_X11_132 hb2 rfl rfl (by decide) (Nat.le_of_ble_eq_true rfl) hcA (fun h3 α2 ν2 X2 hT3 hP => ?_)
  exact ev_ireturn ⟨by rw [hX1], α2, ν2, X2, hT3, α1, hα, hP⟩ rfl dX11_twoFormula_61
set_option maxRecDepth 100000 in
set_option maxHeartbeats 4000000 in
theorem c_X11_noneFormula_ok {g : Gt} {α : AL} {ν : Nat → Nat → Bool} {X : XM} {h : AH} (hT : TR g α ν X h) (hW : WX ν X) (hV : NV ν X) {f : Nat} (hf : (f : Int) < nF X) (hm : nF X < 60 ∧ 1 + X 16 f 0 ≤ 5) {n : Nat} (hn : nF X = (n : Int)) : Al g M_X11_noneFormula 28 [.ref (α 0 0), .int (J (f : Int))] h 2 102 (some (.int (J (nF X)))) (MK α ν X (16, n) (fun _ _ => yF 4 (1 + X 16 f 0) f 0 0 0) 2 n) := by
  refine al_of rfl rfl (ls := [some (.ref (α 0 0)), some (.int (J (f : Int))), none]) rfl (Nat.le_of_ble_eq_true rfl) ?_
  show Ev g M_X11_noneFormula 28 0 [some (.ref (α 0 0)), some (.int (J (f : Int))), none] [] h 2 102 (AQ g (some (.int (J (nF X)))) (MK α ν X (16, n) (fun _ _ => yF 4 (1 + X 16 f 0) f 0 0 0) 2 n))
  have q1 := wo_nC hW.1
  have q3 := wo_nS hW.1
  have qf := wo_nF hW.1
  have qr := wo_nR hW.1
  have qd1 := wo_dep hW.1 f hf
  refine tj_iconst 1 dX11_noneFormula_0 rfl ?_
  refine ev_ald0 2 dX11_noneFormula_1 rfl ?_
  refine ev_ild1 3 dX11_noneFormula_2 rfl ?_
  refine tc_V1 6 13 dX11_noneFormula_3 lkv_X11_144 (tr0 hT) rfl rfl (by first | decide | omega) (Nat.le_of_ble_eq_true rfl) (c_X11_formulaAt_ok hT hW (by omega)) ?_
  refine tv_depth 9 hT (by first | assumption | exact wx_frm hW (by omega)) fl_X11_148_4 fl_X11_148_6 fl_X11_148_7 fl_X11_148_8 fl_X11_148_11 dX11_noneFormula_6 rfl ?_
  refine tj_iadd 10 dX11_noneFormula_9 rfl ?_
  refine ev_ist2 11 dX11_noneFormula_10 rfl (by decide) rfl ?_
  refine ev_ald0 12 dX11_noneFormula_11 rfl ?_
  refine ev_ild2 13 dX11_noneFormula_12 rfl ?_
  refine tcv_V1 16 13 dX11_noneFormula_13 lkv_X11_124 (tr0 hT) rfl rfl (by first | decide | omega) (Nat.le_of_ble_eq_true rfl) (c_X11_checkFormulaFits_ok hT hW (show R31 (1 + X 16 f 0) from ⟨by omega, by omega⟩) hm) ?_
  refine ev_ald0 17 dX11_noneFormula_16 rfl ?_
  refine ev_mono (mc := 1 + 1) (ms := 100 + 2) (by omega) (by omega) ?_
  refine ev_new (fs := [.int 0, .int 0]) 20 8 nw_X11_164 dX11_noneFormula_17 rfl (fun q hq hgq => ?_)
  have hT1 := hT.up (c := .inr (8, [.int 0, .int 0])) hq
  refine ev_dup 21 dX11_noneFormula_20 rfl rfl ?_
  refine ev_ild2 22 dX11_noneFormula_21 rfl ?_
  refine ev_ild1 23 dX11_noneFormula_22 rfl ?_
  refine ev_mono (mc := 0 + 1) (ms := 0 + 100) (by omega) (by omega) ?_
  refine kv_init 26 lki_X11_166 (k_X6_init (hup_eq _ _ _) hgq) (by decide) rfl rfl (Nat.le_of_ble_eq_true rfl) dX11_noneFormula_23 rfl (fun h2 K2 => ?_)
  have F := FR.of_KN hq K2
  obtain ⟨α1, hT2, hq2, hα⟩ := tn_formula (n := n) (y := yF 4 (1 + X 16 f 0) f 0 0 0) hT hV.1 (nv_16 hV hn) (by exact F) rfl (yF_R ⟨(by first | exact TR.rng hT _ _ _ | exact R31_of _ | exact bi_R _ | (constructor <;> omega)), (by first | exact TR.rng hT _ _ _ | exact R31_of _ | exact bi_R _ | (constructor <;> omega)), (by first | exact TR.rng hT _ _ _ | exact R31_of _ | exact bi_R _ | (constructor <;> omega)), (by first | exact TR.rng hT _ _ _ | exact R31_of _ | exact bi_R _ | (constructor <;> omega)), (by first | exact TR.rng hT _ _ _ | exact R31_of _ | exact bi_R _ | (constructor <;> omega)), (by first | exact TR.rng hT _ _ _ | exact R31_of _ | exact bi_R _ | (constructor <;> omega))⟩)
  have hC1 := clo_grow (G := (16, n)) (x := fun _ _ => yF 4 (1 + X 16 f 0) f 0 0 0) hV.1 (show (16 : Nat) ≠ 2 by decide) (fun z => by exact absurd z (show ¬ (16 : Nat) = 4 by decide)) (fun i z => by exact absurd (congrArg Prod.fst z) (gk_1x i (a := 16)))
  have hL1 := lw_grow (G := (16, n)) (x := fun _ _ => yF 4 (1 + X 16 f 0) f 0 0 0) (lw_i hT hW (show 2 < 4 by decide)) (show (16 : Nat) ≠ 2 by decide) (gk_ne (by show (0 : Nat) ≠ 16; decide))
  have hX1 : xG X (16, n) (fun _ _ => yF 4 (1 + X 16 f 0) f 0 0 0) 1 2 = X 1 2 := xG_ne (gk_ne (by show (0 : Nat) ≠ 16; decide))
  have hX2 : xG X (16, n) (fun _ _ => yF 4 (1 + X 16 f 0) f 0 0 0) 2 2 = X 2 2 := xG_ne (gk_ne (by show (2 : Nat) ≠ 16; decide))
  have hl0 : 0 ≤ xG X (16, n) (fun _ _ => yF 4 (1 + X 16 f 0) f 0 0 0) 1 2 2 := by rw [hX1]; show 0 ≤ nF X; omega
  have hcA := c_X11_keep (e := n) hT2 hC1 hL1 (by rw [hX1]; show nF X ≤ 60; omega) (fun z => by rw [hX1] at z; rw [hX2]; exact hV.2.2.2.2.2 2 (hV.1.2.2.2.1 2 (tv1_2 hT) z)) (tv16 hT2 (nuG_new ν (16, n))) (by omega)
  rw [hα 0 0 (gk_ne (by show (0 : Nat) ≠ 16; decide)), hq2] at hcA
  have hb2 := tr0 hT2
  rw [hα 0 0 (gk_ne (by show (0 : Nat) ≠ 16; decide))] at hb2
  refine ev_mono (mc := 1 + 0) (ms := 100 + 0) (by omega) (by omega) ?_
  refine ta_V1 29 13 dX11_noneFormula_26 lkv_X11_132 hb2 rfl rfl (by decide) (Nat.le_of_ble_eq_true rfl) hcA (fun h3 α2 ν2 X2 hT3 hP => ?_)
  exact ev_ireturn ⟨by rw [hX1], α2, ν2, X2, hT3, α1, hα, hP⟩ rfl dX11_noneFormula_29
