/-! THE CLASS ENROLLS -/
/-- only the lists of who waits are other -/
theorem wo_wl {X X1 : XM} (h : WO X) (hk : ∀ k, k ≠ 1 → k ≠ 2 → X1 k = X k) (h4 : ∀ i, i < 4 → X1 1 i = X 1 i) (a1 : ∀ c : Nat, (c : Int) < nC X → 0 ≤ X1 1 (4 + c) 2 ∧ X1 1 (4 + c) 2 ≤ 6) (a2 : ∀ c k : Nat, (c : Int) < nC X → (k : Int) < X1 1 (4 + c) 2 → 0 ≤ X1 2 (4 + c) (k + 1) ∧ X1 2 (4 + c) (k + 1) < nS X) (a3 : ∀ c : Nat, (c : Int) < nC X → 5 < X 0 0 5 → X1 1 (4 + c) 2 = 0) (a4 : ∀ c k : Nat, (c : Int) < nC X → (k : Int) < X1 1 (4 + c) 2 → X 9 (X1 2 (4 + c) (k + 1)).toNat c ≤ 2) : WO X1 := by
  unfold WO
  rw [hk 0 (by decide) (by decide), hk 3 (by decide) (by decide), hk 4 (by decide) (by decide), hk 5 (by decide) (by decide), hk 6 (by decide) (by decide), hk 7 (by decide) (by decide), hk 8 (by decide) (by decide), hk 9 (by decide) (by decide), hk 11 (by decide) (by decide), hk 12 (by decide) (by decide), hk 13 (by decide) (by decide), hk 14 (by decide) (by decide), hk 15 (by decide) (by decide), hk 16 (by decide) (by decide), show nC X1 = nC X from congrFun (h4 0 (by decide)) 2, show nS X1 = nS X from congrFun (h4 1 (by decide)) 2, show nF X1 = nF X from congrFun (h4 2 (by decide)) 2, show nR X1 = nR X from congrFun (h4 3 (by decide)) 2, bsT_cg (X := X) (X' := X1) (hk 6 (by decide) (by decide)) (hk 11 (by decide) (by decide))]
  exact ⟨wo_nC h, wo_nS h, wo_nF h, wo_nR h, wo_day h, wo_term h, wo_crd h, wo_sea h, wo_req h, wo_res h, a1, a2, wo_maj h, wo_t01 h, wo_m01 h, wo_tm h, wo_bst h, wo_tri h, wo_trd h, wo_bsq h, wo_far h, wo_dep h, wo_dp0 h, wo_fk h, wo_f0 h, wo_f1 h, wo_f2 h, wo_f3 h, wo_f4 h, wo_rul h, wo_r01 h, wo_rm4 h, wo_tk3 h, a3, a4, wo_deg h, wo_f7 h, trivial⟩
theorem add_wl {α α' : AL} {ν ν' : Nat → Nat → Bool} {X X1 : XM} {c e : Nat} (hW : WX ν X) (hc : (c : Int) < nC X) (hP : ADD α ν X (4 + c) e α' ν' X1) (h5 : X 0 0 5 ≤ 5) (h6 : X 1 (4 + c) 2 < 6) (he : (e : Int) < nS X) (h9 : X 9 e c ≤ 2) : WX ν' X1 := by
  obtain ⟨-, rfl, hx, h1, h2, h3, h4, h7, -⟩ := hP
  have hk : ∀ k, k ≠ 1 → k ≠ 2 → X1 k = X k := fun k n1 n2 => funext fun i => hx k i (fun z => n1 z.1) (fun z => n2 z.1)
  have hi : ∀ i, i ≠ 4 + c → X1 1 i = X 1 i ∧ X1 2 i = X 2 i := fun i n => ⟨hx 1 i (fun z => n z.2) (fun z => n z.2), hx 2 i (fun z => n z.2) (fun z => n z.2)⟩
  have hn := wo_wN hW.1 c hc
  have hA : ∀ c' k : Nat, (c' : Int) < nC X → (k : Int) < X1 1 (4 + c') 2 → (X1 2 (4 + c') (k + 1) = X 2 (4 + c') (k + 1) ∧ (k : Int) < X 1 (4 + c') 2) ∨ (c' = c ∧ X1 2 (4 + c') (k + 1) = e) := fun c' k hc' hk' => by
    by_cases q : c' = c
    · subst q
      rw [h2] at hk'
      by_cases q2 : (k : Int) < X 1 (4 + c') 2
      · exact Or.inl ⟨h7 k q2, q2⟩
      · refine Or.inr ⟨rfl, ?_⟩
        rw [show k = (X 1 (4 + c') 2).toNat by omega]
        exact h4
    · have := hi (4 + c') (by omega)
      rw [this.1] at hk'
      rw [this.2]
      exact Or.inl ⟨rfl, hk'⟩
  refine ⟨wo_wl hW.1 hk (fun i z => (hi i (by omega)).1) (fun c' hc' => ?_) (fun c' k hc' hk' => ?_) (fun c' hc' z => by omega) (fun c' k hc' hk' => ?_), ?_⟩
  · by_cases q : c' = c
    · subst q; rw [h2]; omega
    · rw [(hi (4 + c') (by omega)).1]; exact wo_wN hW.1 c' hc'
  · rcases hA c' k hc' hk' with ⟨q1, q2⟩ | ⟨q1, q2⟩
    · rw [q1]; exact wo_wA hW.1 c' k hc' q2
    · rw [q2]; omega
  · rcases hA c' k hc' hk' with ⟨q1, q2⟩ | ⟨q1, q2⟩
    · rw [q1]; exact wo_wt3 hW.1 c' k hc' q2
    · rw [q2, q1]; exact h9
  · have hV := hW.2
    unfold WV
    rw [show nC X1 = nC X from congrFun (hi 0 (by omega)).1 2, show nS X1 = nS X from congrFun (hi 1 (by omega)).1 2, show nF X1 = nF X from congrFun (hi 2 (by omega)).1 2, show nR X1 = nR X from congrFun (hi 3 (by omega)).1 2]
    refine ⟨fun s z => nuG_old (wv_stu hV s z), nuG_old (wv_new hV), fun s z => nuG_old (wv_crs hV s z), fun s z => nuG_old (wv_rul hV s z), fun s z => nuG_old (wv_frm hV s z), fun i z y => ?_, fun i z y => ?_, fun i j z y => ?_, fun c' hc' y => ?_, fun c' hc' y => ?_, fun i => ?_, trivial⟩
    · rw [(hi i (by omega)).1] at y ⊢
      rw [(hi i (by omega)).2]
      exact ⟨nuG_old (wv_lst hV i z y).1, (wv_lst hV i z y).2⟩
    · rw [(hi i (by omega)).1] at y ⊢
      exact wv_ls0 hV i z y
    · rw [(hi i (by omega)).1] at y
      rw [(hi i (by omega)).2]
      exact wv_le hV i j z y
    · by_cases q : c' = c
      · subst q
        exact ⟨nuG_new ν (2, 4 + c'), by rw [h2]; exact h3.1⟩
      · rw [(hi (4 + c') (by omega)).1] at y ⊢
        rw [(hi (4 + c') (by omega)).2]
        exact ⟨nuG_old (wv_wst hV c' hc' y).1, (wv_wst hV c' hc' y).2⟩
    · by_cases q : c' = c
      · subst q
        exact absurd y h1
      · rw [(hi (4 + c') (by omega)).1] at y ⊢
        exact wv_ws0 hV c' hc' y
    · by_cases q : i = 4 + c
      · subst q; exact h3.2
      · rw [(hi i q).2]; exact wv_cap hV i
set_option maxRecDepth 100000 in
set_option maxHeartbeats 4000000 in
theorem c_X11_enroll_x2 {g : Gt} {α : AL} {ν : Nat → Nat → Bool} {X : XM} {h : AH} (hT : TR g α ν X h) (hW : WX ν X) {s : Nat} (hs0 : (s : Int) < nS X) {c : Nat} (hc : (c : Int) < nC X) (hv : ltr X s c = 100) : Th g M_X11_enroll 28 [.ref (α 0 0), .int (J (s : Int)), .int (J (c : Int))] h "java/lang/IllegalStateException" := by
  refine th_of rfl rfl (ls := [some (.ref (α 0 0)), some (.int (J (s : Int))), some (.int (J (c : Int))), none, none, none]) rfl (Nat.le_of_ble_eq_true rfl) ?_
  show Ev g M_X11_enroll 28 0 [some (.ref (α 0 0)), some (.int (J (s : Int))), some (.int (J (c : Int))), none, none, none] [] h 1 6 (TQ "java/lang/IllegalStateException" h)
  have q1 := wo_nC hW.1
  have q3 := wo_nS hW.1
  have qf := wo_nF hW.1
  have qr := wo_nR hW.1
  have hs := wx_stu hW hs0
  have hl : s < 17 := by omega
  refine ev_ald0 1 dX11_enroll_0 rfl ?_
  refine ev_ild1 2 dX11_enroll_1 rfl ?_
  refine tc_V1 5 13 dX11_enroll_2 lkv_X11_93 (tr0 hT) rfl rfl (by first | decide | omega) (Nat.le_of_ble_eq_true rfl) (c_X11_studentAt_ok hT hW (by omega)) ?_
  refine ev_ast3 6 dX11_enroll_5 rfl (by decide) rfl ?_
  refine ev_ald0 7 dX11_enroll_6 rfl ?_
  refine ev_ild2 8 dX11_enroll_7 rfl ?_
  refine tc_V1 11 13 dX11_enroll_8 lkv_X11_104 (tr0 hT) rfl rfl (by first | decide | omega) (Nat.le_of_ble_eq_true rfl) (c_X11_courseAt_ok hT hW (by omega)) ?_
  refine ev_ast4 13 dX11_enroll_11 rfl (by decide) rfl ?_
  refine ev_ald0 14 dX11_enroll_13 rfl ?_
  refine ev_ald3 15 dX11_enroll_14 rfl ?_
  refine ev_ald4 17 dX11_enroll_15 rfl ?_
  refine tc_V2 20 13 dX11_enroll_17 lkv_X11_191 (tr0 hT) rfl rfl (by first | decide | omega) (Nat.le_of_ble_eq_true rfl) (c_X11_letterFor hT hW (by omega) (by omega)) ?_
  rw [hv]
  refine ev_ist5 22 dX11_enroll_20 rfl (by decide) rfl ?_
  refine ev_ild5 24 dX11_enroll_22 rfl ?_
  refine tj_bipush 26 dX11_enroll_24 (by decide) rfl ?_
  refine tj_icmp_ne 39 29 dX11_enroll_26 (by decide) rfl (by first | exact TR.rng hT _ _ _ | exact R31_of _ | exact bi_R _ | (constructor <;> omega)) (by first | exact TR.rng hT _ _ _ | exact R31_of _ | exact bi_R _ | (constructor <;> omega)) (fun c26 => ?_) (fun c26 => ?_)
  · exact False.elim (by omega)
  · skip
    exact ev_throwS th_X11_74_195_78 rfl ⟨rfl, rfl⟩ (by decide) (by decide) dX11_enroll_29 dX11_enroll_32 dX11_enroll_33 dX11_enroll_35 dX11_enroll_38 (by decide) (by decide)
set_option maxRecDepth 100000 in
set_option maxHeartbeats 4000000 in
theorem c_X11_enroll_x3 {g : Gt} {α : AL} {ν : Nat → Nat → Bool} {X : XM} {h : AH} (hT : TR g α ν X h) (hW : WX ν X) {s : Nat} (hs0 : (s : Int) < nS X) {c : Nat} (hc : (c : Int) < nC X) (hv : ltr X s c = 105) : Th g M_X11_enroll 28 [.ref (α 0 0), .int (J (s : Int)), .int (J (c : Int))] h "java/lang/IllegalArgumentException" := by
  refine th_of rfl rfl (ls := [some (.ref (α 0 0)), some (.int (J (s : Int))), some (.int (J (c : Int))), none, none, none]) rfl (Nat.le_of_ble_eq_true rfl) ?_
  show Ev g M_X11_enroll 28 0 [some (.ref (α 0 0)), some (.int (J (s : Int))), some (.int (J (c : Int))), none, none, none] [] h 1 6 (TQ "java/lang/IllegalArgumentException" h)
  have q1 := wo_nC hW.1
  have q3 := wo_nS hW.1
  have qf := wo_nF hW.1
  have qr := wo_nR hW.1
  have hs := wx_stu hW hs0
  have hl : s < 17 := by omega
  refine ev_ald0 1 dX11_enroll_0 rfl ?_
  refine ev_ild1 2 dX11_enroll_1 rfl ?_
  refine tc_V1 5 13 dX11_enroll_2 lkv_X11_93 (tr0 hT) rfl rfl (by first | decide | omega) (Nat.le_of_ble_eq_true rfl) (c_X11_studentAt_ok hT hW (by omega)) ?_
  refine ev_ast3 6 dX11_enroll_5 rfl (by decide) rfl ?_
  refine ev_ald0 7 dX11_enroll_6 rfl ?_
  refine ev_ild2 8 dX11_enroll_7 rfl ?_
  refine tc_V1 11 13 dX11_enroll_8 lkv_X11_104 (tr0 hT) rfl rfl (by first | decide | omega) (Nat.le_of_ble_eq_true rfl) (c_X11_courseAt_ok hT hW (by omega)) ?_
  refine ev_ast4 13 dX11_enroll_11 rfl (by decide) rfl ?_
  refine ev_ald0 14 dX11_enroll_13 rfl ?_
  refine ev_ald3 15 dX11_enroll_14 rfl ?_
  refine ev_ald4 17 dX11_enroll_15 rfl ?_
  refine tc_V2 20 13 dX11_enroll_17 lkv_X11_191 (tr0 hT) rfl rfl (by first | decide | omega) (Nat.le_of_ble_eq_true rfl) (c_X11_letterFor hT hW (by omega) (by omega)) ?_
  rw [hv]
  refine ev_ist5 22 dX11_enroll_20 rfl (by decide) rfl ?_
  refine ev_ild5 24 dX11_enroll_22 rfl ?_
  refine tj_bipush 26 dX11_enroll_24 (by decide) rfl ?_
  refine tj_icmp_ne 39 29 dX11_enroll_26 (by decide) rfl (by first | exact TR.rng hT _ _ _ | exact R31_of _ | exact bi_R _ | (constructor <;> omega)) (by first | exact TR.rng hT _ _ _ | exact R31_of _ | exact bi_R _ | (constructor <;> omega)) (fun c26 => ?_) (fun c26 => ?_)
  · skip
    refine ev_ild5 41 dX11_enroll_39 rfl ?_
    refine tj_bipush 43 dX11_enroll_41 (by decide) rfl ?_
    refine tj_icmp_ne 56 46 dX11_enroll_43 (by decide) rfl (by first | exact TR.rng hT _ _ _ | exact R31_of _ | exact bi_R _ | (constructor <;> omega)) (by first | exact TR.rng hT _ _ _ | exact R31_of _ | exact bi_R _ | (constructor <;> omega)) (fun c43 => ?_) (fun c43 => ?_)
    · exact False.elim (by omega)
    · skip
      exact ev_throwS th_X11_63_197_67 rfl ⟨rfl, rfl⟩ (by decide) (by decide) dX11_enroll_46 dX11_enroll_49 dX11_enroll_50 dX11_enroll_52 dX11_enroll_55 (by decide) (by decide)
  · exact False.elim (by omega)
set_option maxRecDepth 100000 in
set_option maxHeartbeats 4000000 in
theorem c_X11_enroll_x4a {g : Gt} {α : AL} {ν : Nat → Nat → Bool} {X : XM} {h : AH} (hT : TR g α ν X h) (hW : WX ν X) {s : Nat} (hs0 : (s : Int) < nS X) {c : Nat} (hc : (c : Int) < nC X) (hv : ltr X s c = 114) : Th g M_X11_enroll 28 [.ref (α 0 0), .int (J (s : Int)), .int (J (c : Int))] h "java/lang/UnsupportedOperationException" := by
  refine th_of rfl rfl (ls := [some (.ref (α 0 0)), some (.int (J (s : Int))), some (.int (J (c : Int))), none, none, none]) rfl (Nat.le_of_ble_eq_true rfl) ?_
  show Ev g M_X11_enroll 28 0 [some (.ref (α 0 0)), some (.int (J (s : Int))), some (.int (J (c : Int))), none, none, none] [] h 1 6 (TQ "java/lang/UnsupportedOperationException" h)
  have q1 := wo_nC hW.1
  have q3 := wo_nS hW.1
  have qf := wo_nF hW.1
  have qr := wo_nR hW.1
  have hs := wx_stu hW hs0
  have hl : s < 17 := by omega
  refine ev_ald0 1 dX11_enroll_0 rfl ?_
  refine ev_ild1 2 dX11_enroll_1 rfl ?_
  refine tc_V1 5 13 dX11_enroll_2 lkv_X11_93 (tr0 hT) rfl rfl (by first | decide | omega) (Nat.le_of_ble_eq_true rfl) (c_X11_studentAt_ok hT hW (by omega)) ?_
  refine ev_ast3 6 dX11_enroll_5 rfl (by decide) rfl ?_
  refine ev_ald0 7 dX11_enroll_6 rfl ?_
  refine ev_ild2 8 dX11_enroll_7 rfl ?_
  refine tc_V1 11 13 dX11_enroll_8 lkv_X11_104 (tr0 hT) rfl rfl (by first | decide | omega) (Nat.le_of_ble_eq_true rfl) (c_X11_courseAt_ok hT hW (by omega)) ?_
  refine ev_ast4 13 dX11_enroll_11 rfl (by decide) rfl ?_
  refine ev_ald0 14 dX11_enroll_13 rfl ?_
  refine ev_ald3 15 dX11_enroll_14 rfl ?_
  refine ev_ald4 17 dX11_enroll_15 rfl ?_
  refine tc_V2 20 13 dX11_enroll_17 lkv_X11_191 (tr0 hT) rfl rfl (by first | decide | omega) (Nat.le_of_ble_eq_true rfl) (c_X11_letterFor hT hW (by omega) (by omega)) ?_
  rw [hv]
  refine ev_ist5 22 dX11_enroll_20 rfl (by decide) rfl ?_
  refine ev_ild5 24 dX11_enroll_22 rfl ?_
  refine tj_bipush 26 dX11_enroll_24 (by decide) rfl ?_
  refine tj_icmp_ne 39 29 dX11_enroll_26 (by decide) rfl (by first | exact TR.rng hT _ _ _ | exact R31_of _ | exact bi_R _ | (constructor <;> omega)) (by first | exact TR.rng hT _ _ _ | exact R31_of _ | exact bi_R _ | (constructor <;> omega)) (fun c26 => ?_) (fun c26 => ?_)
  · skip
    refine ev_ild5 41 dX11_enroll_39 rfl ?_
    refine tj_bipush 43 dX11_enroll_41 (by decide) rfl ?_
    refine tj_icmp_ne 56 46 dX11_enroll_43 (by decide) rfl (by first | exact TR.rng hT _ _ _ | exact R31_of _ | exact bi_R _ | (constructor <;> omega)) (by first | exact TR.rng hT _ _ _ | exact R31_of _ | exact bi_R _ | (constructor <;> omega)) (fun c43 => ?_) (fun c43 => ?_)
    · skip
      refine ev_ild5 58 dX11_enroll_56 rfl ?_
      refine tj_bipush 60 dX11_enroll_58 (by decide) rfl ?_
      refine tj_icmp_eq 70 63 dX11_enroll_60 (by decide) rfl (by first | exact TR.rng hT _ _ _ | exact R31_of _ | exact bi_R _ | (constructor <;> omega)) (by first | exact TR.rng hT _ _ _ | exact R31_of _ | exact bi_R _ | (constructor <;> omega)) (fun c60 => ?_) (fun c60 => ?_)
      · skip
        exact ev_throwS th_X11_199_201_203 rfl ⟨rfl, rfl⟩ (by decide) (by decide) dX11_enroll_70 dX11_enroll_73 dX11_enroll_74 dX11_enroll_76 dX11_enroll_79 (by decide) (by decide)
      · exact False.elim (by omega)
    · exact False.elim (by omega)
  · exact False.elim (by omega)
set_option maxRecDepth 100000 in
set_option maxHeartbeats 4000000 in
theorem c_X11_enroll_x4b {g : Gt} {α : AL} {ν : Nat → Nat → Bool} {X : XM} {h : AH} (hT : TR g α ν X h) (hW : WX ν X) {s : Nat} (hs0 : (s : Int) < nS X) {c : Nat} (hc : (c : Int) < nC X) (hv : ltr X s c = 97) : Th g M_X11_enroll 28 [.ref (α 0 0), .int (J (s : Int)), .int (J (c : Int))] h "java/lang/UnsupportedOperationException" := by
  refine th_of rfl rfl (ls := [some (.ref (α 0 0)), some (.int (J (s : Int))), some (.int (J (c : Int))), none, none, none]) rfl (Nat.le_of_ble_eq_true rfl) ?_
  show Ev g M_X11_enroll 28 0 [some (.ref (α 0 0)), some (.int (J (s : Int))), some (.int (J (c : Int))), none, none, none] [] h 1 6 (TQ "java/lang/UnsupportedOperationException" h)
  have q1 := wo_nC hW.1
  have q3 := wo_nS hW.1
  have qf := wo_nF hW.1
  have qr := wo_nR hW.1
  have hs := wx_stu hW hs0
  have hl : s < 17 := by omega
  refine ev_ald0 1 dX11_enroll_0 rfl ?_
  refine ev_ild1 2 dX11_enroll_1 rfl ?_
  refine tc_V1 5 13 dX11_enroll_2 lkv_X11_93 (tr0 hT) rfl rfl (by first | decide | omega) (Nat.le_of_ble_eq_true rfl) (c_X11_studentAt_ok hT hW (by omega)) ?_
  refine ev_ast3 6 dX11_enroll_5 rfl (by decide) rfl ?_
  refine ev_ald0 7 dX11_enroll_6 rfl ?_
  refine ev_ild2 8 dX11_enroll_7 rfl ?_
  refine tc_V1 11 13 dX11_enroll_8 lkv_X11_104 (tr0 hT) rfl rfl (by first | decide | omega) (Nat.le_of_ble_eq_true rfl) (c_X11_courseAt_ok hT hW (by omega)) ?_
  refine ev_ast4 13 dX11_enroll_11 rfl (by decide) rfl ?_
  refine ev_ald0 14 dX11_enroll_13 rfl ?_
  refine ev_ald3 15 dX11_enroll_14 rfl ?_
  refine ev_ald4 17 dX11_enroll_15 rfl ?_
  refine tc_V2 20 13 dX11_enroll_17 lkv_X11_191 (tr0 hT) rfl rfl (by first | decide | omega) (Nat.le_of_ble_eq_true rfl) (c_X11_letterFor hT hW (by omega) (by omega)) ?_
  rw [hv]
  refine ev_ist5 22 dX11_enroll_20 rfl (by decide) rfl ?_
  refine ev_ild5 24 dX11_enroll_22 rfl ?_
  refine tj_bipush 26 dX11_enroll_24 (by decide) rfl ?_
  refine tj_icmp_ne 39 29 dX11_enroll_26 (by decide) rfl (by first | exact TR.rng hT _ _ _ | exact R31_of _ | exact bi_R _ | (constructor <;> omega)) (by first | exact TR.rng hT _ _ _ | exact R31_of _ | exact bi_R _ | (constructor <;> omega)) (fun c26 => ?_) (fun c26 => ?_)
  · skip
    refine ev_ild5 41 dX11_enroll_39 rfl ?_
    refine tj_bipush 43 dX11_enroll_41 (by decide) rfl ?_
    refine tj_icmp_ne 56 46 dX11_enroll_43 (by decide) rfl (by first | exact TR.rng hT _ _ _ | exact R31_of _ | exact bi_R _ | (constructor <;> omega)) (by first | exact TR.rng hT _ _ _ | exact R31_of _ | exact bi_R _ | (constructor <;> omega)) (fun c43 => ?_) (fun c43 => ?_)
    · skip
      refine ev_ild5 58 dX11_enroll_56 rfl ?_
      refine tj_bipush 60 dX11_enroll_58 (by decide) rfl ?_
      refine tj_icmp_eq 70 63 dX11_enroll_60 (by decide) rfl (by first | exact TR.rng hT _ _ _ | exact R31_of _ | exact bi_R _ | (constructor <;> omega)) (by first | exact TR.rng hT _ _ _ | exact R31_of _ | exact bi_R _ | (constructor <;> omega)) (fun c60 => ?_) (fun c60 => ?_)
      · exact False.elim (by omega)
      · skip
        refine ev_ild5 65 dX11_enroll_63 rfl ?_
        refine tj_bipush 67 dX11_enroll_65 (by decide) rfl ?_
        refine tj_icmp_ne 80 70 dX11_enroll_67 (by decide) rfl (by first | exact TR.rng hT _ _ _ | exact R31_of _ | exact bi_R _ | (constructor <;> omega)) (by first | exact TR.rng hT _ _ _ | exact R31_of _ | exact bi_R _ | (constructor <;> omega)) (fun c67 => ?_) (fun c67 => ?_)
        · exact False.elim (by omega)
        · skip
          exact ev_throwS th_X11_199_201_203 rfl ⟨rfl, rfl⟩ (by decide) (by decide) dX11_enroll_70 dX11_enroll_73 dX11_enroll_74 dX11_enroll_76 dX11_enroll_79 (by decide) (by decide)
    · exact False.elim (by omega)
  · exact False.elim (by omega)
set_option maxRecDepth 100000 in
set_option maxHeartbeats 4000000 in
theorem c_X11_enroll_x5 {g : Gt} {α : AL} {ν : Nat → Nat → Bool} {X : XM} {h : AH} (hT : TR g α ν X h) (hW : WX ν X) {s : Nat} (hs0 : (s : Int) < nS X) {c : Nat} (hc : (c : Int) < nC X) (hv : ltr X s c = 99) : Th g M_X11_enroll 28 [.ref (α 0 0), .int (J (s : Int)), .int (J (c : Int))] h "java/lang/ArithmeticException" := by
  refine th_of rfl rfl (ls := [some (.ref (α 0 0)), some (.int (J (s : Int))), some (.int (J (c : Int))), none, none, none]) rfl (Nat.le_of_ble_eq_true rfl) ?_
  show Ev g M_X11_enroll 28 0 [some (.ref (α 0 0)), some (.int (J (s : Int))), some (.int (J (c : Int))), none, none, none] [] h 1 6 (TQ "java/lang/ArithmeticException" h)
  have q1 := wo_nC hW.1
  have q3 := wo_nS hW.1
  have qf := wo_nF hW.1
  have qr := wo_nR hW.1
  have hs := wx_stu hW hs0
  have hl : s < 17 := by omega
  refine ev_ald0 1 dX11_enroll_0 rfl ?_
  refine ev_ild1 2 dX11_enroll_1 rfl ?_
  refine tc_V1 5 13 dX11_enroll_2 lkv_X11_93 (tr0 hT) rfl rfl (by first | decide | omega) (Nat.le_of_ble_eq_true rfl) (c_X11_studentAt_ok hT hW (by omega)) ?_
  refine ev_ast3 6 dX11_enroll_5 rfl (by decide) rfl ?_
  refine ev_ald0 7 dX11_enroll_6 rfl ?_
  refine ev_ild2 8 dX11_enroll_7 rfl ?_
  refine tc_V1 11 13 dX11_enroll_8 lkv_X11_104 (tr0 hT) rfl rfl (by first | decide | omega) (Nat.le_of_ble_eq_true rfl) (c_X11_courseAt_ok hT hW (by omega)) ?_
  refine ev_ast4 13 dX11_enroll_11 rfl (by decide) rfl ?_
  refine ev_ald0 14 dX11_enroll_13 rfl ?_
  refine ev_ald3 15 dX11_enroll_14 rfl ?_
  refine ev_ald4 17 dX11_enroll_15 rfl ?_
  refine tc_V2 20 13 dX11_enroll_17 lkv_X11_191 (tr0 hT) rfl rfl (by first | decide | omega) (Nat.le_of_ble_eq_true rfl) (c_X11_letterFor hT hW (by omega) (by omega)) ?_
  rw [hv]
  refine ev_ist5 22 dX11_enroll_20 rfl (by decide) rfl ?_
  refine ev_ild5 24 dX11_enroll_22 rfl ?_
  refine tj_bipush 26 dX11_enroll_24 (by decide) rfl ?_
  refine tj_icmp_ne 39 29 dX11_enroll_26 (by decide) rfl (by first | exact TR.rng hT _ _ _ | exact R31_of _ | exact bi_R _ | (constructor <;> omega)) (by first | exact TR.rng hT _ _ _ | exact R31_of _ | exact bi_R _ | (constructor <;> omega)) (fun c26 => ?_) (fun c26 => ?_)
  · skip
    refine ev_ild5 41 dX11_enroll_39 rfl ?_
    refine tj_bipush 43 dX11_enroll_41 (by decide) rfl ?_
    refine tj_icmp_ne 56 46 dX11_enroll_43 (by decide) rfl (by first | exact TR.rng hT _ _ _ | exact R31_of _ | exact bi_R _ | (constructor <;> omega)) (by first | exact TR.rng hT _ _ _ | exact R31_of _ | exact bi_R _ | (constructor <;> omega)) (fun c43 => ?_) (fun c43 => ?_)
    · skip
      refine ev_ild5 58 dX11_enroll_56 rfl ?_
      refine tj_bipush 60 dX11_enroll_58 (by decide) rfl ?_
      refine tj_icmp_eq 70 63 dX11_enroll_60 (by decide) rfl (by first | exact TR.rng hT _ _ _ | exact R31_of _ | exact bi_R _ | (constructor <;> omega)) (by first | exact TR.rng hT _ _ _ | exact R31_of _ | exact bi_R _ | (constructor <;> omega)) (fun c60 => ?_) (fun c60 => ?_)
      · exact False.elim (by omega)
      · skip
        refine ev_ild5 65 dX11_enroll_63 rfl ?_
        refine tj_bipush 67 dX11_enroll_65 (by decide) rfl ?_
        refine tj_icmp_ne 80 70 dX11_enroll_67 (by decide) rfl (by first | exact TR.rng hT _ _ _ | exact R31_of _ | exact bi_R _ | (constructor <;> omega)) (by first | exact TR.rng hT _ _ _ | exact R31_of _ | exact bi_R _ | (constructor <;> omega)) (fun c67 => ?_) (fun c67 => ?_)
        · skip
          refine ev_ild5 82 dX11_enroll_80 rfl ?_
          refine tj_bipush 84 dX11_enroll_82 (by decide) rfl ?_
          refine tj_icmp_ne 97 87 dX11_enroll_84 (by decide) rfl (by first | exact TR.rng hT _ _ _ | exact R31_of _ | exact bi_R _ | (constructor <;> omega)) (by first | exact TR.rng hT _ _ _ | exact R31_of _ | exact bi_R _ | (constructor <;> omega)) (fun c84 => ?_) (fun c84 => ?_)
          · exact False.elim (by omega)
          · skip
            exact ev_throwS th_X11_204_206_208 rfl ⟨rfl, rfl⟩ (by decide) (by decide) dX11_enroll_87 dX11_enroll_90 dX11_enroll_91 dX11_enroll_93 dX11_enroll_96 (by decide) (by decide)
        · exact False.elim (by omega)
    · exact False.elim (by omega)
  · exact False.elim (by omega)
set_option maxRecDepth 100000 in
set_option maxHeartbeats 4000000 in
theorem c_X11_enroll_x6 {g : Gt} {α : AL} {ν : Nat → Nat → Bool} {X : XM} {h : AH} (hT : TR g α ν X h) (hW : WX ν X) {s : Nat} (hs0 : (s : Int) < nS X) {c : Nat} (hc : (c : Int) < nC X) (hv : ltr X s c = 102) : Th g M_X11_enroll 28 [.ref (α 0 0), .int (J (s : Int)), .int (J (c : Int))] h "java/util/NoSuchElementException" := by
  refine th_of rfl rfl (ls := [some (.ref (α 0 0)), some (.int (J (s : Int))), some (.int (J (c : Int))), none, none, none]) rfl (Nat.le_of_ble_eq_true rfl) ?_
  show Ev g M_X11_enroll 28 0 [some (.ref (α 0 0)), some (.int (J (s : Int))), some (.int (J (c : Int))), none, none, none] [] h 1 6 (TQ "java/util/NoSuchElementException" h)
  have q1 := wo_nC hW.1
  have q3 := wo_nS hW.1
  have qf := wo_nF hW.1
  have qr := wo_nR hW.1
  have hs := wx_stu hW hs0
  have hl : s < 17 := by omega
  refine ev_ald0 1 dX11_enroll_0 rfl ?_
  refine ev_ild1 2 dX11_enroll_1 rfl ?_
  refine tc_V1 5 13 dX11_enroll_2 lkv_X11_93 (tr0 hT) rfl rfl (by first | decide | omega) (Nat.le_of_ble_eq_true rfl) (c_X11_studentAt_ok hT hW (by omega)) ?_
  refine ev_ast3 6 dX11_enroll_5 rfl (by decide) rfl ?_
  refine ev_ald0 7 dX11_enroll_6 rfl ?_
  refine ev_ild2 8 dX11_enroll_7 rfl ?_
  refine tc_V1 11 13 dX11_enroll_8 lkv_X11_104 (tr0 hT) rfl rfl (by first | decide | omega) (Nat.le_of_ble_eq_true rfl) (c_X11_courseAt_ok hT hW (by omega)) ?_
  refine ev_ast4 13 dX11_enroll_11 rfl (by decide) rfl ?_
  refine ev_ald0 14 dX11_enroll_13 rfl ?_
  refine ev_ald3 15 dX11_enroll_14 rfl ?_
  refine ev_ald4 17 dX11_enroll_15 rfl ?_
  refine tc_V2 20 13 dX11_enroll_17 lkv_X11_191 (tr0 hT) rfl rfl (by first | decide | omega) (Nat.le_of_ble_eq_true rfl) (c_X11_letterFor hT hW (by omega) (by omega)) ?_
  rw [hv]
  refine ev_ist5 22 dX11_enroll_20 rfl (by decide) rfl ?_
  refine ev_ild5 24 dX11_enroll_22 rfl ?_
  refine tj_bipush 26 dX11_enroll_24 (by decide) rfl ?_
  refine tj_icmp_ne 39 29 dX11_enroll_26 (by decide) rfl (by first | exact TR.rng hT _ _ _ | exact R31_of _ | exact bi_R _ | (constructor <;> omega)) (by first | exact TR.rng hT _ _ _ | exact R31_of _ | exact bi_R _ | (constructor <;> omega)) (fun c26 => ?_) (fun c26 => ?_)
  · skip
    refine ev_ild5 41 dX11_enroll_39 rfl ?_
    refine tj_bipush 43 dX11_enroll_41 (by decide) rfl ?_
    refine tj_icmp_ne 56 46 dX11_enroll_43 (by decide) rfl (by first | exact TR.rng hT _ _ _ | exact R31_of _ | exact bi_R _ | (constructor <;> omega)) (by first | exact TR.rng hT _ _ _ | exact R31_of _ | exact bi_R _ | (constructor <;> omega)) (fun c43 => ?_) (fun c43 => ?_)
    · skip
      refine ev_ild5 58 dX11_enroll_56 rfl ?_
      refine tj_bipush 60 dX11_enroll_58 (by decide) rfl ?_
      refine tj_icmp_eq 70 63 dX11_enroll_60 (by decide) rfl (by first | exact TR.rng hT _ _ _ | exact R31_of _ | exact bi_R _ | (constructor <;> omega)) (by first | exact TR.rng hT _ _ _ | exact R31_of _ | exact bi_R _ | (constructor <;> omega)) (fun c60 => ?_) (fun c60 => ?_)
      · exact False.elim (by omega)
      · skip
        refine ev_ild5 65 dX11_enroll_63 rfl ?_
        refine tj_bipush 67 dX11_enroll_65 (by decide) rfl ?_
        refine tj_icmp_ne 80 70 dX11_enroll_67 (by decide) rfl (by first | exact TR.rng hT _ _ _ | exact R31_of _ | exact bi_R _ | (constructor <;> omega)) (by first | exact TR.rng hT _ _ _ | exact R31_of _ | exact bi_R _ | (constructor <;> omega)) (fun c67 => ?_) (fun c67 => ?_)
        · skip
          refine ev_ild5 82 dX11_enroll_80 rfl ?_
          refine tj_bipush 84 dX11_enroll_82 (by decide) rfl ?_
          refine tj_icmp_ne 97 87 dX11_enroll_84 (by decide) rfl (by first | exact TR.rng hT _ _ _ | exact R31_of _ | exact bi_R _ | (constructor <;> omega)) (by first | exact TR.rng hT _ _ _ | exact R31_of _ | exact bi_R _ | (constructor <;> omega)) (fun c84 => ?_) (fun c84 => ?_)
          · skip
            refine ev_ild5 99 dX11_enroll_97 rfl ?_
            refine tj_bipush 101 dX11_enroll_99 (by decide) rfl ?_
            refine tj_icmp_ne 114 104 dX11_enroll_101 (by decide) rfl (by first | exact TR.rng hT _ _ _ | exact R31_of _ | exact bi_R _ | (constructor <;> omega)) (by first | exact TR.rng hT _ _ _ | exact R31_of _ | exact bi_R _ | (constructor <;> omega)) (fun c101 => ?_) (fun c101 => ?_)
            · exact False.elim (by omega)
            · skip
              exact ev_throwN tn_X11_209_211_213 rfl ⟨rfl, rfl⟩ (by decide) (Nat.le_of_ble_eq_true rfl) dX11_enroll_104 dX11_enroll_107 dX11_enroll_108 dX11_enroll_110 dX11_enroll_113 (by decide) (by decide)
          · exact False.elim (by omega)
        · exact False.elim (by omega)
    · exact False.elim (by omega)
  · exact False.elim (by omega)
set_option maxRecDepth 100000 in
set_option maxHeartbeats 4000000 in
theorem c_X11_enroll_okt {g : Gt} {α : AL} {ν : Nat → Nat → Bool} {X : XM} {h : AH} (hT : TR g α ν X h) (hW : WX ν X) {s : Nat} (hs0 : (s : Int) < nS X) {c : Nat} (hc : (c : Int) < nC X) (hv : ltr X s c = 101) (h9 : X 9 s c ≤ 2) : Mu g α ν M_X11_enroll 28 [.ref (α 0 0), .int (J (s : Int)), .int (J (c : Int))] h (some (.int (J 101))) (fun X' => X' = gv (xs X 5 s c 1) ∧ WX ν X') := by
  refine mu_of rfl rfl (ls := [some (.ref (α 0 0)), some (.int (J (s : Int))), some (.int (J (c : Int))), none, none, none]) rfl (Nat.le_of_ble_eq_true rfl) ?_
  show Ev g M_X11_enroll 28 0 [some (.ref (α 0 0)), some (.int (J (s : Int))), some (.int (J (c : Int))), none, none, none] [] h 0 0 (UQ g α ν (some (.int (J 101))) (fun X' => X' = gv (xs X 5 s c 1) ∧ WX ν X'))
  have q1 := wo_nC hW.1
  have q3 := wo_nS hW.1
  have hs := wx_stu hW hs0
  have hl : s < 17 := by omega
  have hW0 := hW
  refine ev_ald0 1 dX11_enroll_0 rfl ?_
  refine ev_ild1 2 dX11_enroll_1 rfl ?_
  refine tc_V1 5 13 dX11_enroll_2 lkv_X11_93 (tr0 hT) rfl rfl (by first | decide | omega) (Nat.le_of_ble_eq_true rfl) (c_X11_studentAt_ok hT hW (by omega)) ?_
  refine ev_ast3 6 dX11_enroll_5 rfl (by decide) rfl ?_
  refine ev_ald0 7 dX11_enroll_6 rfl ?_
  refine ev_ild2 8 dX11_enroll_7 rfl ?_
  refine tc_V1 11 13 dX11_enroll_8 lkv_X11_104 (tr0 hT) rfl rfl (by first | decide | omega) (Nat.le_of_ble_eq_true rfl) (c_X11_courseAt_ok hT hW (by omega)) ?_
  refine ev_ast4 13 dX11_enroll_11 rfl (by decide) rfl ?_
  refine ev_ald0 14 dX11_enroll_13 rfl ?_
  refine ev_ald3 15 dX11_enroll_14 rfl ?_
  refine ev_ald4 17 dX11_enroll_15 rfl ?_
  refine tc_V2 20 13 dX11_enroll_17 lkv_X11_191 (tr0 hT) rfl rfl (by first | decide | omega) (Nat.le_of_ble_eq_true rfl) (c_X11_letterFor hT hW (by omega) (by omega)) ?_
  rw [hv]
  refine ev_ist5 22 dX11_enroll_20 rfl (by decide) rfl ?_
  refine ev_ild5 24 dX11_enroll_22 rfl ?_
  refine tj_bipush 26 dX11_enroll_24 (by decide) rfl ?_
  refine tj_icmp_ne 39 29 dX11_enroll_26 (by decide) rfl (by first | exact TR.rng hT _ _ _ | exact R31_of _ | exact bi_R _ | (constructor <;> omega)) (by first | exact TR.rng hT _ _ _ | exact R31_of _ | exact bi_R _ | (constructor <;> omega)) (fun c26 => ?_) (fun c26 => ?_)
  · skip
    refine ev_ild5 41 dX11_enroll_39 rfl ?_
    refine tj_bipush 43 dX11_enroll_41 (by decide) rfl ?_
    refine tj_icmp_ne 56 46 dX11_enroll_43 (by decide) rfl (by first | exact TR.rng hT _ _ _ | exact R31_of _ | exact bi_R _ | (constructor <;> omega)) (by first | exact TR.rng hT _ _ _ | exact R31_of _ | exact bi_R _ | (constructor <;> omega)) (fun c43 => ?_) (fun c43 => ?_)
    · skip
      refine ev_ild5 58 dX11_enroll_56 rfl ?_
      refine tj_bipush 60 dX11_enroll_58 (by decide) rfl ?_
      refine tj_icmp_eq 70 63 dX11_enroll_60 (by decide) rfl (by first | exact TR.rng hT _ _ _ | exact R31_of _ | exact bi_R _ | (constructor <;> omega)) (by first | exact TR.rng hT _ _ _ | exact R31_of _ | exact bi_R _ | (constructor <;> omega)) (fun c60 => ?_) (fun c60 => ?_)
      · exact False.elim (by omega)
      · skip
        refine ev_ild5 65 dX11_enroll_63 rfl ?_
        refine tj_bipush 67 dX11_enroll_65 (by decide) rfl ?_
        refine tj_icmp_ne 80 70 dX11_enroll_67 (by decide) rfl (by first | exact TR.rng hT _ _ _ | exact R31_of _ | exact bi_R _ | (constructor <;> omega)) (by first | exact TR.rng hT _ _ _ | exact R31_of _ | exact bi_R _ | (constructor <;> omega)) (fun c67 => ?_) (fun c67 => ?_)
        · skip
          refine ev_ild5 82 dX11_enroll_80 rfl ?_
          refine tj_bipush 84 dX11_enroll_82 (by decide) rfl ?_
          refine tj_icmp_ne 97 87 dX11_enroll_84 (by decide) rfl (by first | exact TR.rng hT _ _ _ | exact R31_of _ | exact bi_R _ | (constructor <;> omega)) (by first | exact TR.rng hT _ _ _ | exact R31_of _ | exact bi_R _ | (constructor <;> omega)) (fun c84 => ?_) (fun c84 => ?_)
          · skip
            refine ev_ild5 99 dX11_enroll_97 rfl ?_
            refine tj_bipush 101 dX11_enroll_99 (by decide) rfl ?_
            refine tj_icmp_ne 114 104 dX11_enroll_101 (by decide) rfl (by first | exact TR.rng hT _ _ _ | exact R31_of _ | exact bi_R _ | (constructor <;> omega)) (by first | exact TR.rng hT _ _ _ | exact R31_of _ | exact bi_R _ | (constructor <;> omega)) (fun c101 => ?_) (fun c101 => ?_)
            · skip
              refine ev_ild5 116 dX11_enroll_114 rfl ?_
              refine tj_bipush 118 dX11_enroll_116 (by decide) rfl ?_
              refine tj_icmp_ne 131 121 dX11_enroll_118 (by decide) rfl (by first | exact TR.rng hT _ _ _ | exact R31_of _ | exact bi_R _ | (constructor <;> omega)) (by first | exact TR.rng hT _ _ _ | exact R31_of _ | exact bi_R _ | (constructor <;> omega)) (fun c118 => ?_) (fun c118 => ?_)
              · exact False.elim (by omega)
              · skip
                refine ev_ald3 122 dX11_enroll_121 rfl ?_
                refine ev_getfield 125 10 1 fl_X11_214_10 (tr4 hT (by first | assumption | exact wx_stu hW (by omega) | exact wx_crs hW (by omega) | exact wx_new hW) (by omega)) rfl dX11_enroll_122 rfl ?_
                refine ev_ild2 126 dX11_enroll_125 rfl ?_
                refine tj_iconst 127 dX11_enroll_126 rfl ?_
                refine tv_zast 128 hT (tv5 hT (by first | assumption | exact wx_stu hW (by omega) | exact wx_crs hW (by omega) | exact wx_new hW) (by omega)) (fun _ => rfl) (c) (by omega) (by omega) (by omega) (by first | omega | exact bi_01 _) dX11_enroll_127 rfl (fun h hT => ?_)
                obtain ⟨X3, hX3⟩ : ∃ Z, Z = xs X 5 s c 1 := ⟨_, rfl⟩
                rw [← hX3] at hT
                have hW : WX ν X3 := by rw [hX3]; exact ⟨wo_t1 hW0.1 hs0 hc h9, wv_t1 hW0.2 s c 1⟩
                refine ev_goto 141 dX11_enroll_128 (by decide) ?_
                refine ev_ald0 142 dX11_enroll_141 rfl ?_
                refine tmv_V0 145 13 dX11_enroll_142 lkv_X11_101 (tr0 hT) rfl rfl (by first | decide | omega) (Nat.le_of_ble_eq_true rfl) (c_X11_giveOutSeats hT hW) (fun h X1 hT hP142 => ?_)
                refine ev_ild5 147 dX11_enroll_145 rfl ?_
                exact tz_retcU (by first | rfl | omega | exact bi_dt (by omega) | exact bi_df (by omega) | (skip)) (by first | decide | omega) hT (by rw [← hX3]; exact hP142) rfl dX11_enroll_147
            · exact False.elim (by omega)
          · exact False.elim (by omega)
        · exact False.elim (by omega)
    · exact False.elim (by omega)
  · exact False.elim (by omega)
set_option maxRecDepth 100000 in
set_option maxHeartbeats 4000000 in
theorem c_X11_enroll_okw {g : Gt} {α : AL} {ν : Nat → Nat → Bool} {X : XM} {h : AH} (hT : TR g α ν X h) (hW : WX ν X) (hV : NV ν X) {s : Nat} (hs0 : (s : Int) < nS X) {c : Nat} (hc : (c : Int) < nC X) (hv : ltr X s c = 119) (h5 : X 0 0 5 ≤ 5) (h6 : X 1 (4 + c) 2 < 6) (h9 : X 9 s c ≤ 2) : Al g M_X11_enroll 28 [.ref (α 0 0), .int (J (s : Int)), .int (J (c : Int))] h 1 100 (some (.int (J 119))) (fun α' ν' X' => ∃ X1, ADD α ν X (4 + c) s α' ν' X1 ∧ WX ν' X1 ∧ X' = gv X1 ∧ WX ν' X') := by
  refine al_of rfl rfl (ls := [some (.ref (α 0 0)), some (.int (J (s : Int))), some (.int (J (c : Int))), none, none, none]) rfl (Nat.le_of_ble_eq_true rfl) ?_
  show Ev g M_X11_enroll 28 0 [some (.ref (α 0 0)), some (.int (J (s : Int))), some (.int (J (c : Int))), none, none, none] [] h 1 100 (AQ g (some (.int (J 119))) (fun α' ν' X' => ∃ X1, ADD α ν X (4 + c) s α' ν' X1 ∧ WX ν' X1 ∧ X' = gv X1 ∧ WX ν' X'))
  have q1 := wo_nC hW.1
  have q3 := wo_nS hW.1
  have hs := wx_stu hW hs0
  have hl : s < 17 := by omega
  refine ev_ald0 1 dX11_enroll_0 rfl ?_
  refine ev_ild1 2 dX11_enroll_1 rfl ?_
  refine tc_V1 5 13 dX11_enroll_2 lkv_X11_93 (tr0 hT) rfl rfl (by first | decide | omega) (Nat.le_of_ble_eq_true rfl) (c_X11_studentAt_ok hT hW (by omega)) ?_
  refine ev_ast3 6 dX11_enroll_5 rfl (by decide) rfl ?_
  refine ev_ald0 7 dX11_enroll_6 rfl ?_
  refine ev_ild2 8 dX11_enroll_7 rfl ?_
  refine tc_V1 11 13 dX11_enroll_8 lkv_X11_104 (tr0 hT) rfl rfl (by first | decide | omega) (Nat.le_of_ble_eq_true rfl) (c_X11_courseAt_ok hT hW (by omega)) ?_
  refine ev_ast4 13 dX11_enroll_11 rfl (by decide) rfl ?_
  refine ev_ald0 14 dX11_enroll_13 rfl ?_
  refine ev_ald3 15 dX11_enroll_14 rfl ?_
  refine ev_ald4 17 dX11_enroll_15 rfl ?_
  refine tc_V2 20 13 dX11_enroll_17 lkv_X11_191 (tr0 hT) rfl rfl (by first | decide | omega) (Nat.le_of_ble_eq_true rfl) (c_X11_letterFor hT hW (by omega) (by omega)) ?_
  rw [hv]
  refine ev_ist5 22 dX11_enroll_20 rfl (by decide) rfl ?_
  refine ev_ild5 24 dX11_enroll_22 rfl ?_
  refine tj_bipush 26 dX11_enroll_24 (by decide) rfl ?_
  refine tj_icmp_ne 39 29 dX11_enroll_26 (by decide) rfl (by first | exact TR.rng hT _ _ _ | exact R31_of _ | exact bi_R _ | (constructor <;> omega)) (by first | exact TR.rng hT _ _ _ | exact R31_of _ | exact bi_R _ | (constructor <;> omega)) (fun c26 => ?_) (fun c26 => ?_)
  · skip
    refine ev_ild5 41 dX11_enroll_39 rfl ?_
    refine tj_bipush 43 dX11_enroll_41 (by decide) rfl ?_
    refine tj_icmp_ne 56 46 dX11_enroll_43 (by decide) rfl (by first | exact TR.rng hT _ _ _ | exact R31_of _ | exact bi_R _ | (constructor <;> omega)) (by first | exact TR.rng hT _ _ _ | exact R31_of _ | exact bi_R _ | (constructor <;> omega)) (fun c43 => ?_) (fun c43 => ?_)
    · skip
      refine ev_ild5 58 dX11_enroll_56 rfl ?_
      refine tj_bipush 60 dX11_enroll_58 (by decide) rfl ?_
      refine tj_icmp_eq 70 63 dX11_enroll_60 (by decide) rfl (by first | exact TR.rng hT _ _ _ | exact R31_of _ | exact bi_R _ | (constructor <;> omega)) (by first | exact TR.rng hT _ _ _ | exact R31_of _ | exact bi_R _ | (constructor <;> omega)) (fun c60 => ?_) (fun c60 => ?_)
      · exact False.elim (by omega)
      · skip
        refine ev_ild5 65 dX11_enroll_63 rfl ?_
        refine tj_bipush 67 dX11_enroll_65 (by decide) rfl ?_
        refine tj_icmp_ne 80 70 dX11_enroll_67 (by decide) rfl (by first | exact TR.rng hT _ _ _ | exact R31_of _ | exact bi_R _ | (constructor <;> omega)) (by first | exact TR.rng hT _ _ _ | exact R31_of _ | exact bi_R _ | (constructor <;> omega)) (fun c67 => ?_) (fun c67 => ?_)
        · skip
          refine ev_ild5 82 dX11_enroll_80 rfl ?_
          refine tj_bipush 84 dX11_enroll_82 (by decide) rfl ?_
          refine tj_icmp_ne 97 87 dX11_enroll_84 (by decide) rfl (by first | exact TR.rng hT _ _ _ | exact R31_of _ | exact bi_R _ | (constructor <;> omega)) (by first | exact TR.rng hT _ _ _ | exact R31_of _ | exact bi_R _ | (constructor <;> omega)) (fun c84 => ?_) (fun c84 => ?_)
          · skip
            refine ev_ild5 99 dX11_enroll_97 rfl ?_
            refine tj_bipush 101 dX11_enroll_99 (by decide) rfl ?_
            refine tj_icmp_ne 114 104 dX11_enroll_101 (by decide) rfl (by first | exact TR.rng hT _ _ _ | exact R31_of _ | exact bi_R _ | (constructor <;> omega)) (by first | exact TR.rng hT _ _ _ | exact R31_of _ | exact bi_R _ | (constructor <;> omega)) (fun c101 => ?_) (fun c101 => ?_)
            · skip
              refine ev_ild5 116 dX11_enroll_114 rfl ?_
              refine tj_bipush 118 dX11_enroll_116 (by decide) rfl ?_
              refine tj_icmp_ne 131 121 dX11_enroll_118 (by decide) rfl (by first | exact TR.rng hT _ _ _ | exact R31_of _ | exact bi_R _ | (constructor <;> omega)) (by first | exact TR.rng hT _ _ _ | exact R31_of _ | exact bi_R _ | (constructor <;> omega)) (fun c118 => ?_) (fun c118 => ?_)
              · skip
                refine ev_ald4 133 dX11_enroll_131 rfl ?_
                refine ev_getfield 136 5 4 fl_X11_217_5 (tr12 hT (wx_crs hW hc)) rfl dX11_enroll_133 rfl ?_
                refine ev_ald3 137 dX11_enroll_136 rfl ?_
                have hn6 := wo_wN hW.1 c hc
                have hcA := c_add (i := 4 + c) (e := s) hT hV.1 (lw_w hT hW hc) (by omega) (fun z => hV.2.2.2.2.2 (4 + c) (hV.1.2.2.2.1 (4 + c) (tv1_W hT (wx_crs hW hc)) z)) (by rw [ek_w]; exact tv4 hT hs hl) (by omega)
                rw [ek_w] at hcA
                refine ev_mono (mc := 1 + 0) (ms := 100 + 0) (by omega) (by omega) ?_
                refine ta_V1 140 2 dX11_enroll_137 lkv_X11_84 (tr1_W hT (wx_crs hW hc)) rfl rfl (by decide) (Nat.le_of_ble_eq_true rfl) hcA (fun h3 α2 ν2 X2 hT3 hP => ?_)
                have e0 : α2 0 0 = α 0 0 := hP.1 0 0 (by omega)
                rw [← e0]
                have hW3 := add_wl hW hc hP h5 h6 hs0 h9
                refine ev_pop 141 dX11_enroll_140 rfl rfl ?_
                refine ev_ald0 142 dX11_enroll_141 rfl ?_
                refine tmv_V0 145 13 dX11_enroll_142 lkv_X11_101 (tr0 hT3) rfl rfl (by decide) (Nat.le_of_ble_eq_true rfl) (c_X11_giveOutSeats hT3 hW3) (fun h4 X4 hT4 hP4 => ?_)
                refine ev_ild5 147 dX11_enroll_145 rfl ?_
                exact ev_zreturn ⟨rfl, α2, ν2, X4, hT4, X2, hP, hW3, hP4⟩ rfl (by decide) dX11_enroll_147
              · exact False.elim (by omega)
            · exact False.elim (by omega)
          · exact False.elim (by omega)
        · exact False.elim (by omega)
    · exact False.elim (by omega)
  · exact False.elim (by omega)
/-- what a letter says -/
theorem ltr_at {X : XM} {s c : Nat} (h : ltr X s c = 101 ∨ ltr X s c = 119) : X 0 0 5 ≤ 5 ∧ X 9 s c ≤ 2 ∧ (tak X s c = false ∧ place X c s = -1) ∧ (ltr X s c = 119 → X 1 (4 + c) 2 < 6 ∧ ¬ 0 < free X c (X 4 s 0)) ∧ (ltr X s c = 101 → 0 < free X c (X 4 s 0)) := by
  unfold ltr at h ⊢
  by_cases c1 : 5 < X 0 0 5
  · rw [if_pos c1] at h; omega
  · rw [if_neg c1] at h ⊢
    by_cases c2 : tak X s c = true ∨ place X c s ≠ -1
    · rw [if_pos c2] at h; omega
    · rw [if_neg c2] at h ⊢
      by_cases c3 : mayT X s c = false
      · rw [if_pos c3] at h; omega
      · rw [if_neg c3] at h ⊢
        by_cases c4 : 3 ≤ X 9 s c
        · rw [if_pos c4] at h; omega
        · rw [if_neg c4] at h ⊢
          by_cases c5 : fitsL X s c = false
          · rw [if_pos c5] at h; omega
          · rw [if_neg c5] at h ⊢
            have q : tak X s c = false ∧ place X c s = -1 := ⟨by cases e : tak X s c with
              | false => rfl
              | true => exact absurd (Or.inl e) c2, by
              by_cases z : place X c s = -1
              · exact z
              · exact absurd (Or.inr z) c2⟩
            by_cases c6 : 0 < free X c (X 4 s 0)
            · rw [if_pos c6] at h ⊢
              exact ⟨by omega, by omega, q, fun z => by omega, fun _ => c6⟩
            · rw [if_neg c6] at h ⊢
              by_cases c7 : 6 ≤ X 1 (4 + c) 2
              · rw [if_pos c7] at h; omega
              · rw [if_neg c7]
                exact ⟨by omega, by omega, q, fun _ => ⟨by omega, c6⟩, fun z => by omega⟩
theorem ltr_in (X : XM) (s c : Nat) : ltr X s c = 100 ∨ ltr X s c = 105 ∨ ltr X s c = 114 ∨ ltr X s c = 97 ∨ ltr X s c = 99 ∨ ltr X s c = 101 ∨ ltr X s c = 102 ∨ ltr X s c = 119 := by
  unfold ltr
  split
  · exact Or.inl rfl
  · split
    · exact Or.inr (Or.inl rfl)
    · split
      · exact Or.inr (Or.inr (Or.inl rfl))
      · split
        · exact Or.inr (Or.inr (Or.inr (Or.inl rfl)))
        · split
          · exact Or.inr (Or.inr (Or.inr (Or.inr (Or.inl rfl))))
          · split
            · exact Or.inr (Or.inr (Or.inr (Or.inr (Or.inr (Or.inl rfl)))))
            · split
              · exact Or.inr (Or.inr (Or.inr (Or.inr (Or.inr (Or.inr (Or.inl rfl))))))
              · exact Or.inr (Or.inr (Or.inr (Or.inr (Or.inr (Or.inr (Or.inr rfl))))))
