/-! THE OBJECTS OF WHAT IS MADE -/
theorem wx_mkS {α α' : AL} {ν ν' : Nat → Nat → Bool} {X X' : XM} {n : Nat} {p1 : Int} (h0 : 0 ≤ p1 ∧ p1 ≤ 3) (hm : nS X < 16) (hW : WX ν X) (hV : NV ν X) (hn : nS X = (n : Int)) (hP : MK α ν X (4, n) (xS p1) 1 n α' ν' X') : WX ν' X' ∧ NV ν' X' := by
  have hi : gk 1 1 ≠ (4, n) := gk_ne (by show (0 : Nat) ≠ 4; decide)
  have hX := mk_x hP (show (4 : Nat) ≠ 2 by decide) hi
  have hO : WO X' := wo_mkS h0 hm hW.1 hn hX
  obtain ⟨l1, l2, l3, l4, l5, rfl⟩ := mk_l hP (show (4 : Nat) ≠ 2 by decide) hi
  obtain ⟨f1, f2, f3⟩ := hX
  have hw := hW.2
  have g1 : ∀ j, j < 4 → j ≠ 1 → X' 1 j = X 1 j := fun j hj q => f1 1 j (gk_ne (by rw [show gk 1 j = (0, 0) by simp [gk, hj]]; show (0 : Nat) ≠ 4; decide)) (by omega) (by omega)
  have g2 : ∀ j, j ≠ 1 → X' 2 j = X 2 j := fun j q => f1 2 j (gk_ne (by show (2 : Nat) ≠ 4; decide)) (by omega) (by omega)
  have enC : nC X' = nC X := congrFun (g1 0 (by decide) (by decide)) 2
  have enF : nF X' = nF X := congrFun (g1 2 (by decide) (by decide)) 2
  have enR : nR X' = nR X := congrFun (g1 3 (by decide) (by decide)) 2
  have enS : nS X' = nS X + 1 := f3
  have w1 : ∀ c, X' 1 (4 + c) = X 1 (4 + c) := fun c => f1 1 (4 + c) (gk_ne (gk_1x _ (a := 4))) (by omega) (by omega)
  have n2 : nuG (nuG ν (4, n)) (2, 1) 4 n = true := nuG_old (nuG_new ν (4, n))
  refine ⟨⟨hO, ?_⟩, ?_⟩
  · unfold WV
    rw [enC, enS, enF, enR]
    refine ⟨fun s hs => by by_cases q : s = n; (rw [q]; exact n2); exact nuG_old (nuG_old (wv_stu hw s (by omega))), nuG_old (nuG_old (wv_new hw)), fun s hs => nuG_old (nuG_old (wv_crs hw s hs)), fun s hs => nuG_old (nuG_old (wv_rul hw s hs)), fun s hs => nuG_old (nuG_old (wv_frm hw s hs)), fun j hj y => ?_, fun j hj y => ?_, fun j t hj y => ?_, fun c hc y => ?_, fun c hc y => ?_, fun j => ?_, trivial⟩
    · by_cases q : j = 1
      · subst q
        exact ⟨nuG_new _ (2, 1), by rw [f3]; exact l2.1⟩
      · rw [g1 j hj q] at y ⊢
        rw [g2 j q]
        exact ⟨nuG_old (nuG_old (wv_lst hw j hj y).1), (wv_lst hw j hj y).2⟩
    · by_cases q : j = 1
      · subst q
        exact absurd y l1
      · rw [g1 j hj q] at y ⊢
        exact wv_ls0 hw j hj y
    · by_cases q : j = 1
      · subst q
        by_cases c2 : (t : Int) < X 1 1 2
        · rw [l4 t c2]
          exact wv_le hw 1 t hj c2
        · have hn' : X 1 1 2 = (n : Int) := hn
          have et : t = n := by omega
          rw [hn', Int.toNat_natCast] at l3
          rw [et]
          exact l3
      · rw [g1 j hj q] at y
        rw [g2 j q]
        exact wv_le hw j t hj y
    · rw [w1 c] at y ⊢
      rw [g2 (4 + c) (by omega)]
      exact ⟨nuG_old (nuG_old (wv_wst hw c hc y).1), (wv_wst hw c hc y).2⟩
    · rw [w1 c] at y ⊢
      exact wv_ws0 hw c hc y
    · by_cases q : j = 1
      · subst q; exact l2.2
      · rw [g2 j q]; exact wv_cap hw j
  · obtain ⟨hC, v4, v12, v14, v16, v2⟩ := hV
    obtain ⟨α1, hα, hA⟩ := hP
    have hC1 := clo_grow (G := (4, n)) (x := xS p1) hC (show (4 : Nat) ≠ 2 by decide) (fun z => by show n < 17; omega) (fun i z => by exact absurd (congrArg Prod.fst z) (gk_1x i (a := 4)))
    have hv1 : vk (nuG ν (4, n)) 1 1 = true := by simp [vk, gk, kOk, nuG_old hC.1]
    have hve : vk (nuG ν (4, n)) (ek 1) n = true := by
      have := nuG_new ν (4, n)
      simp [vk, gk, kOk, ek, this]; omega
    have hz : xG X (4, n) (xS p1) 1 1 1 = 0 → xG X (4, n) (xS p1) 1 1 2 = 0 := by rw [xG_ne hi]; exact wv_ls0 hw 1 (by decide)
    refine ⟨clo_add hC1 hA hv1 hve hz, fun s z => ?_, fun s z => ?_, fun s z => ?_, fun s z => ?_, fun j z => ?_⟩
    · rw [nuG_ne (fun y => by cases y)] at z
      by_cases q : s = n
      · exact Or.inl (by omega)
      · rw [nuG_ne (fun y => q (by cases y; rfl))] at z
        have := v4 s z
        omega
    · rw [nuG_ne (fun y => by cases y)] at z
      rw [nuG_ne (fun y => by cases y)] at z
      rw [enC]
      exact v12 s z
    · rw [nuG_ne (fun y => by cases y)] at z
      rw [nuG_ne (fun y => by cases y)] at z
      rw [enR]
      exact v14 s z
    · rw [nuG_ne (fun y => by cases y)] at z
      rw [nuG_ne (fun y => by cases y)] at z
      rw [enF]
      exact v16 s z
    · by_cases q : j = 1
      · subst q
        have h0 : 0 ≤ X 1 1 2 := by show 0 ≤ nS X; omega
        omega
      · rw [nuG_ne (fun y => q (by cases y; rfl)), nuG_ne (fun y => by cases y)] at z
        rw [g2 j q]
        exact v2 j z
theorem wx_mkC {α α' : AL} {ν ν' : Nat → Nat → Bool} {X X' : XM} {n : Nat} {p1 p2 : Int} (h0 : 1 ≤ p1 ∧ p1 ≤ 6) (h1 : 1 ≤ p2 ∧ p2 ≤ 12) (hm : nC X < 20) (hW : WX ν X) (hV : NV ν X) (hn : nC X = (n : Int)) (hP : MK α ν X (12, n) (xC p1 p2) 0 n α' ν' X') : WX ν' X' ∧ NV ν' X' := by
  have hi : gk 1 0 ≠ (12, n) := gk_ne (by show (0 : Nat) ≠ 12; decide)
  have hX := mk_x hP (show (12 : Nat) ≠ 2 by decide) hi
  have hO : WO X' := wo_mkC h0 h1 hm hW.1 hn hX
  obtain ⟨l1, l2, l3, l4, l5, rfl⟩ := mk_l hP (show (12 : Nat) ≠ 2 by decide) hi
  obtain ⟨f1, f2, f3⟩ := hX
  have hw := hW.2
  have g1 : ∀ j, j < 4 → j ≠ 0 → X' 1 j = X 1 j := fun j hj q => f1 1 j (gk_ne (by rw [show gk 1 j = (0, 0) by simp [gk, hj]]; show (0 : Nat) ≠ 12; decide)) (by omega) (by omega)
  have g2 : ∀ j, j ≠ 0 → X' 2 j = X 2 j := fun j q => f1 2 j (gk_ne (by show (2 : Nat) ≠ 12; decide)) (by omega) (by omega)
  have enS : nS X' = nS X := congrFun (g1 1 (by decide) (by decide)) 2
  have enF : nF X' = nF X := congrFun (g1 2 (by decide) (by decide)) 2
  have enR : nR X' = nR X := congrFun (g1 3 (by decide) (by decide)) 2
  have enC : nC X' = nC X + 1 := f3
  have w1 : ∀ c, c ≠ n → X' 1 (4 + c) = X 1 (4 + c) := fun c q => f1 1 (4 + c) (fun z => q (by rcases gk_12 z with y | y | y <;> omega)) (by omega) (by omega)
  have w0 : ∀ j, X' 1 (4 + n) j = 0 := fun j => by rw [f2 1 (4 + n) (gk_12n n).2.2]; rfl
  have n2 : nuG (nuG ν (12, n)) (2, 0) 12 n = true := nuG_old (nuG_new ν (12, n))
  refine ⟨⟨hO, ?_⟩, ?_⟩
  · unfold WV
    rw [enC, enS, enF, enR]
    refine ⟨fun s hs => nuG_old (nuG_old (wv_stu hw s hs)), nuG_old (nuG_old (wv_new hw)), fun s hs => by by_cases q : s = n; (rw [q]; exact n2); exact nuG_old (nuG_old (wv_crs hw s (by omega))), fun s hs => nuG_old (nuG_old (wv_rul hw s hs)), fun s hs => nuG_old (nuG_old (wv_frm hw s hs)), fun j hj y => ?_, fun j hj y => ?_, fun j t hj y => ?_, fun c hc y => ?_, fun c hc y => ?_, fun j => ?_, trivial⟩
    · by_cases q : j = 0
      · subst q
        exact ⟨nuG_new _ (2, 0), by rw [f3]; exact l2.1⟩
      · rw [g1 j hj q] at y ⊢
        rw [g2 j q]
        exact ⟨nuG_old (nuG_old (wv_lst hw j hj y).1), (wv_lst hw j hj y).2⟩
    · by_cases q : j = 0
      · subst q
        exact absurd y l1
      · rw [g1 j hj q] at y ⊢
        exact wv_ls0 hw j hj y
    · by_cases q : j = 0
      · subst q
        by_cases c2 : (t : Int) < X 1 0 2
        · rw [l4 t c2]
          exact wv_le hw 0 t hj c2
        · have hn' : X 1 0 2 = (n : Int) := hn
          have et : t = n := by omega
          rw [hn', Int.toNat_natCast] at l3
          rw [et]
          exact l3
      · rw [g1 j hj q] at y
        rw [g2 j q]
        exact wv_le hw j t hj y
    · by_cases q : c = n
      · subst q
        exact absurd (w0 1) y
      · rw [w1 c q] at y ⊢
        rw [g2 (4 + c) (by omega)]
        exact ⟨nuG_old (nuG_old (wv_wst hw c (by omega) y).1), (wv_wst hw c (by omega) y).2⟩
    · by_cases q : c = n
      · subst q
        exact w0 2
      · rw [w1 c q] at y ⊢
        exact wv_ws0 hw c (by omega) y
    · by_cases q : j = 0
      · subst q; exact l2.2
      · rw [g2 j q]; exact wv_cap hw j
  · obtain ⟨hC, v4, v12, v14, v16, v2⟩ := hV
    obtain ⟨α1, hα, hA⟩ := hP
    have hC1 := clo_grow (G := (12, n)) (x := xC p1 p2) hC (show (12 : Nat) ≠ 2 by decide) (fun z => by exact absurd z (show ¬ (12 : Nat) = 4 by decide)) (fun i z => by rcases gk_12 z with y | y | y <;> first | (exact absurd y.1 (by decide)) | rfl)
    have hv1 : vk (nuG ν (12, n)) 1 0 = true := by simp [vk, gk, kOk, nuG_old hC.1]
    have hve : vk (nuG ν (12, n)) (ek 0) n = true := by
      have := nuG_new ν (12, n)
      simp [vk, gk, kOk, ek, this]
    have hz : xG X (12, n) (xC p1 p2) 1 0 1 = 0 → xG X (12, n) (xC p1 p2) 1 0 2 = 0 := by rw [xG_ne hi]; exact wv_ls0 hw 0 (by decide)
    refine ⟨clo_add hC1 hA hv1 hve hz, fun s z => ?_, fun s z => ?_, fun s z => ?_, fun s z => ?_, fun j z => ?_⟩
    · rw [nuG_ne (fun y => by cases y)] at z
      rw [nuG_ne (fun y => by cases y)] at z
      rw [enS]
      exact v4 s z
    · rw [nuG_ne (fun y => by cases y)] at z
      by_cases q : s = n
      · omega
      · rw [nuG_ne (fun y => q (by cases y; rfl))] at z
        have := v12 s z
        omega
    · rw [nuG_ne (fun y => by cases y)] at z
      rw [nuG_ne (fun y => by cases y)] at z
      rw [enR]
      exact v14 s z
    · rw [nuG_ne (fun y => by cases y)] at z
      rw [nuG_ne (fun y => by cases y)] at z
      rw [enF]
      exact v16 s z
    · by_cases q : j = 0
      · subst q
        have h0 : 0 ≤ X 1 0 2 := by show 0 ≤ nC X; omega
        omega
      · rw [nuG_ne (fun y => q (by cases y; rfl)), nuG_ne (fun y => by cases y)] at z
        rw [g2 j q]
        exact v2 j z
theorem wx_mkF {α α' : AL} {ν ν' : Nat → Nat → Bool} {X X' : XM} {n : Nat} {y : Nat → Int} (hy : FY X n y) (hm : nF X < 60) (hW : WX ν X) (hV : NV ν X) (hn : nF X = (n : Int)) (hP : MK α ν X (16, n) (fun _ _ => y) 2 n α' ν' X') : WX ν' X' ∧ NV ν' X' := by
  have hi : gk 1 2 ≠ (16, n) := gk_ne (by show (0 : Nat) ≠ 16; decide)
  have hX := mk_x hP (show (16 : Nat) ≠ 2 by decide) hi
  have hO : WO X' := wo_mkF hy hm hW.1 hn hX
  obtain ⟨l1, l2, l3, l4, l5, rfl⟩ := mk_l hP (show (16 : Nat) ≠ 2 by decide) hi
  obtain ⟨f1, f2, f3⟩ := hX
  have hw := hW.2
  have g1 : ∀ j, j < 4 → j ≠ 2 → X' 1 j = X 1 j := fun j hj q => f1 1 j (gk_ne (by rw [show gk 1 j = (0, 0) by simp [gk, hj]]; show (0 : Nat) ≠ 16; decide)) (by omega) (by omega)
  have g2 : ∀ j, j ≠ 2 → X' 2 j = X 2 j := fun j q => f1 2 j (gk_ne (by show (2 : Nat) ≠ 16; decide)) (by omega) (by omega)
  have enC : nC X' = nC X := congrFun (g1 0 (by decide) (by decide)) 2
  have enS : nS X' = nS X := congrFun (g1 1 (by decide) (by decide)) 2
  have enR : nR X' = nR X := congrFun (g1 3 (by decide) (by decide)) 2
  have enF : nF X' = nF X + 1 := f3
  have w1 : ∀ c, X' 1 (4 + c) = X 1 (4 + c) := fun c => f1 1 (4 + c) (gk_ne (gk_1x _ (a := 16))) (by omega) (by omega)
  have n2 : nuG (nuG ν (16, n)) (2, 2) 16 n = true := nuG_old (nuG_new ν (16, n))
  refine ⟨⟨hO, ?_⟩, ?_⟩
  · unfold WV
    rw [enC, enS, enF, enR]
    refine ⟨fun s hs => nuG_old (nuG_old (wv_stu hw s hs)), nuG_old (nuG_old (wv_new hw)), fun s hs => nuG_old (nuG_old (wv_crs hw s hs)), fun s hs => nuG_old (nuG_old (wv_rul hw s hs)), fun s hs => by by_cases q : s = n; (rw [q]; exact n2); exact nuG_old (nuG_old (wv_frm hw s (by omega))), fun j hj y => ?_, fun j hj y => ?_, fun j t hj y => ?_, fun c hc y => ?_, fun c hc y => ?_, fun j => ?_, trivial⟩
    · by_cases q : j = 2
      · subst q
        exact ⟨nuG_new _ (2, 2), by rw [f3]; exact l2.1⟩
      · rw [g1 j hj q] at y ⊢
        rw [g2 j q]
        exact ⟨nuG_old (nuG_old (wv_lst hw j hj y).1), (wv_lst hw j hj y).2⟩
    · by_cases q : j = 2
      · subst q
        exact absurd y l1
      · rw [g1 j hj q] at y ⊢
        exact wv_ls0 hw j hj y
    · by_cases q : j = 2
      · subst q
        by_cases c2 : (t : Int) < X 1 2 2
        · rw [l4 t c2]
          exact wv_le hw 2 t hj c2
        · have hn' : X 1 2 2 = (n : Int) := hn
          have et : t = n := by omega
          rw [hn', Int.toNat_natCast] at l3
          rw [et]
          exact l3
      · rw [g1 j hj q] at y
        rw [g2 j q]
        exact wv_le hw j t hj y
    · rw [w1 c] at y ⊢
      rw [g2 (4 + c) (by omega)]
      exact ⟨nuG_old (nuG_old (wv_wst hw c hc y).1), (wv_wst hw c hc y).2⟩
    · rw [w1 c] at y ⊢
      exact wv_ws0 hw c hc y
    · by_cases q : j = 2
      · subst q; exact l2.2
      · rw [g2 j q]; exact wv_cap hw j
  · obtain ⟨hC, v4, v12, v14, v16, v2⟩ := hV
    obtain ⟨α1, hα, hA⟩ := hP
    have hC1 := clo_grow (G := (16, n)) (x := fun _ _ => y) hC (show (16 : Nat) ≠ 2 by decide) (fun z => by exact absurd z (show ¬ (16 : Nat) = 4 by decide)) (fun i z => by exact absurd (congrArg Prod.fst z) (gk_1x i (a := 16)))
    have hv1 : vk (nuG ν (16, n)) 1 2 = true := by simp [vk, gk, kOk, nuG_old hC.1]
    have hve : vk (nuG ν (16, n)) (ek 2) n = true := by
      have := nuG_new ν (16, n)
      simp [vk, gk, kOk, ek, this]
    have hz : xG X (16, n) (fun _ _ => y) 1 2 1 = 0 → xG X (16, n) (fun _ _ => y) 1 2 2 = 0 := by rw [xG_ne hi]; exact wv_ls0 hw 2 (by decide)
    refine ⟨clo_add hC1 hA hv1 hve hz, fun s z => ?_, fun s z => ?_, fun s z => ?_, fun s z => ?_, fun j z => ?_⟩
    · rw [nuG_ne (fun y => by cases y)] at z
      rw [nuG_ne (fun y => by cases y)] at z
      rw [enS]
      exact v4 s z
    · rw [nuG_ne (fun y => by cases y)] at z
      rw [nuG_ne (fun y => by cases y)] at z
      rw [enC]
      exact v12 s z
    · rw [nuG_ne (fun y => by cases y)] at z
      rw [nuG_ne (fun y => by cases y)] at z
      rw [enR]
      exact v14 s z
    · rw [nuG_ne (fun y => by cases y)] at z
      by_cases q : s = n
      · omega
      · rw [nuG_ne (fun y => q (by cases y; rfl))] at z
        have := v16 s z
        omega
    · by_cases q : j = 2
      · subst q
        have h0 : 0 ≤ X 1 2 2 := by show 0 ≤ nF X; omega
        omega
      · rw [nuG_ne (fun y => q (by cases y; rfl)), nuG_ne (fun y => by cases y)] at z
        rw [g2 j q]
        exact v2 j z
/-- a call that makes nothing keeps sizes, and moves elements about -/
def KP (X X' : XM) : Prop := (∀ i, i < 4 → X' 1 i 2 = X 1 i 2) ∧ (∀ i, X' 1 i 1 = X 1 i 1) ∧ (∀ i, X' 2 i 0 = X 2 i 0) ∧ ∀ i j, X' 2 i (j + 1) < 0 ∨ ∃ j', X' 2 i (j + 1) = X 2 i (j' + 1)
theorem KP.refl (X : XM) : KP X X := ⟨fun _ _ => rfl, fun _ => rfl, fun _ => rfl, fun _ j => Or.inr ⟨j, rfl⟩⟩
theorem KP.trans {X Y Z : XM} (a : KP X Y) (b : KP Y Z) : KP X Z := by
  refine ⟨fun i hi => (b.1 i hi).trans (a.1 i hi), fun i => (b.2.1 i).trans (a.2.1 i), fun i => (b.2.2.1 i).trans (a.2.2.1 i), fun i j => ?_⟩
  rcases b.2.2.2 i j with y | ⟨j', y⟩
  · exact Or.inl y
  · rcases a.2.2.2 i j' with z | ⟨j2, z⟩
    · exact Or.inl (by rw [y]; exact z)
    · exact Or.inr ⟨j2, y.trans z⟩
theorem KP.same {X X' : XM} (h1 : X' 1 = X 1) (h2 : X' 2 = X 2) : KP X X' := ⟨fun _ _ => by rw [h1], fun _ => by rw [h1], fun _ => by rw [h2], fun _ j => Or.inr ⟨j, by rw [h2]⟩⟩
theorem KP.xs {X : XM} {k i j : Nat} {v : Int} (h1 : k ≠ 1) (h2 : k ≠ 2) : KP X (xs X k i j v) := KP.same (xs_nk (fun z => h1 z.symm)) (xs_nk (fun z => h2 z.symm))
theorem KP.lv {X : XM} {c k : Nat} (h : 0 < X 1 (4 + c) 2) : KP X (lv X c k) := by
  refine ⟨fun i hi => by rw [lv_ne (by omega)], fun i => ?_, fun i => ?_, fun i j => ?_⟩
  · by_cases q : i = 4 + c
    · subst q; rw [lv_1, if_neg (by decide), if_neg (by decide)]
    · rw [lv_ne q]
  · by_cases q : i = 4 + c
    · subst q
      rw [lv_2]
      by_cases z : 0 = (X 1 (4 + c) 2).toNat
      · omega
      · rw [if_neg z, if_neg (by omega)]
    · rw [lv_ne q]
  · by_cases q : i = 4 + c
    · subst q
      rw [lv_2]
      by_cases z : j + 1 = (X 1 (4 + c) 2).toNat
      · rw [if_pos z]; exact Or.inl (by decide)
      · rw [if_neg z]
        by_cases z2 : k + 1 ≤ j + 1 ∧ j + 1 < (X 1 (4 + c) 2).toNat
        · rw [if_pos z2]; exact Or.inr ⟨j + 1, rfl⟩
        · rw [if_neg z2]; exact Or.inr ⟨j, rfl⟩
    · rw [lv_ne q]; exact Or.inr ⟨j, rfl⟩
theorem nv_kp {ν : Nat → Nat → Bool} {X X' : XM} (hV : NV ν X) (hK : KP X X') : NV ν X' := by
  obtain ⟨⟨h0, h1, h2, h3, h4⟩, v4, v12, v14, v16, v2⟩ := hV
  obtain ⟨a, b, c, d⟩ := hK
  have eS : nS X' = nS X := a 1 (by decide)
  have eC : nC X' = nC X := a 0 (by decide)
  have eF : nF X' = nF X := a 2 (by decide)
  have eR : nR X' = nR X := a 3 (by decide)
  refine ⟨⟨h0, h1, h2, fun i hv hn => h3 i hv (by rw [← b i]; exact hn), fun i j hv hn => ?_⟩, fun s z => by rw [eS]; exact v4 s z, fun s z => by rw [eC]; exact v12 s z, fun s z => by rw [eR]; exact v14 s z, fun s z => by rw [eF]; exact v16 s z, fun i z => by rw [c i]; exact v2 i z⟩
  rcases d i j with y | ⟨j', y⟩
  · omega
  · rw [y] at hn ⊢
    exact h4 i j' hv hn
/-- who comes to a list -/
theorem nv_add {α α' : AL} {ν ν' : Nat → Nat → Bool} {X X' : XM} {c s : Nat} (hW : WX ν X) (hV : NV ν X) (hc : (c : Int) < nC X) (hs : (s : Int) < nS X) (hP : ADD α ν X (4 + c) s α' ν' X') : NV ν' X' := by
  obtain ⟨hC, v4, v12, v14, v16, v2⟩ := hV
  have hn := wo_nS hW.1
  have hw := wo_wN hW.1 c hc
  have e4 : ¬ 4 + c < 4 := by omega
  have hv1 : vk ν 1 (4 + c) = true := by simp [vk, gk, kOk, wx_crs hW hc, e4]
  have hve : vk ν (ek (4 + c)) s = true := by
    rw [ek_w]
    simp [vk, gk, kOk, wx_stu hW hs]
    omega
  have hcl := clo_add hC hP hv1 hve (fun z => wv_ws0 hW.2 c hc z)
  obtain ⟨-, rfl, hx, l1, l2, l3, -⟩ := hP
  have g1 : ∀ j, j < 4 → X' 1 j = X 1 j := fun j hj => hx 1 j (by omega) (by omega)
  have eS : nS X' = nS X := congrFun (g1 1 (by decide)) 2
  have eC : nC X' = nC X := congrFun (g1 0 (by decide)) 2
  have eF : nF X' = nF X := congrFun (g1 2 (by decide)) 2
  have eR : nR X' = nR X := congrFun (g1 3 (by decide)) 2
  refine ⟨hcl, fun s z => ?_, fun s z => ?_, fun s z => ?_, fun s z => ?_, fun j z => ?_⟩
  · rw [nuG_ne (fun y => by cases y)] at z; rw [eS]; exact v4 s z
  · rw [nuG_ne (fun y => by cases y)] at z; rw [eC]; exact v12 s z
  · rw [nuG_ne (fun y => by cases y)] at z; rw [eR]; exact v14 s z
  · rw [nuG_ne (fun y => by cases y)] at z; rw [eF]; exact v16 s z
  · by_cases q : j = 4 + c
    · subst q; omega
    · rw [nuG_ne (fun y => q (by cases y; rfl))] at z
      rw [hx 2 j (by omega) (fun y => q y.2)]
      exact v2 j z
theorem nv_0 : NV nu0 X0 := by
  refine ⟨clo_0, fun s z => ?_, fun s z => ?_, fun s z => ?_, fun s z => ?_, fun s z => ?_⟩ <;> (simp only [nu0, decide_eq_true_eq] at z; omega)
