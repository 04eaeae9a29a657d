/-! WHAT IS MADE LEAVES THE OFFICE WELL FORMED -/
/-- the memory with group G new with x, and list i one longer -/
def MKX (X : XM) (G : Nat × Nat) (x : XM) (i : Nat) (X' : XM) : Prop := (∀ k j, gk k j ≠ G → ¬ (k = 1 ∧ j = i) → ¬ (k = 2 ∧ j = i) → X' k j = X k j) ∧ (∀ k j, gk k j = G → X' k j = x k j) ∧ X' 1 i 2 = X 1 i 2 + 1
section MK1
variable {α α' : AL} {ν ν' : Nat → Nat → Bool} {X X' x : XM} {G : Nat × Nat} {i e : Nat}
theorem mk_x (hP : MK α ν X G x i e α' ν' X') (hG : G.1 ≠ 2) (hi : gk 1 i ≠ G) : MKX X G x i X' := by
  obtain ⟨α1, -, -, -, hx, -, h2, -⟩ := hP
  have n2 : ∀ j, gk 2 j ≠ G := fun j z => hG (by rw [← z]; rfl)
  refine ⟨fun k j n a b => by rw [hx k j a b, xG_ne n], fun k j n => ?_, by rw [h2, xG_ne hi]⟩
  rw [hx k j (fun z => hi (by rw [← z.1, ← z.2]; exact n)) (fun z => n2 j (by rw [← n, z.1])), xG_eq n]
/-- the list itself -/
theorem mk_l (hP : MK α ν X G x i e α' ν' X') (hG : G.1 ≠ 2) (hi : gk 1 i ≠ G) : X' 1 i 1 ≠ 0 ∧ (X 1 i 2 + 1 ≤ X' 2 i 0 ∧ X' 2 i 0 ≤ 1000) ∧ X' 2 i ((X 1 i 2).toNat + 1) = e ∧ (∀ j : Nat, (j : Int) < X 1 i 2 → X' 2 i (j + 1) = X 2 i (j + 1)) ∧ (∀ j : Nat, X 1 i 2 < j → X' 2 i (j + 1) < 0 ∨ (ν 2 i = true ∧ X' 2 i (j + 1) = X 2 i (j + 1))) ∧ ν' = nuG (nuG ν G) (2, i) := by
  obtain ⟨α1, -, -, h0, -, h1, -, h3, h4, h5, h6⟩ := hP
  have n2 : gk 2 i ≠ G := fun z => hG (by rw [← z]; rfl)
  have e1 : xG X G x 1 i = X 1 i := xG_ne hi
  have e2 : xG X G x 2 i = X 2 i := xG_ne n2
  rw [e1] at h3 h4 h5 h6
  rw [e2] at h5 h6
  refine ⟨h1, h3, h4, h5, fun j hj => ?_, h0⟩
  have := h6 j hj
  rw [nuG_ne (a := 2) (b := i) (fun z => hG (by rw [← z]))] at this
  exact this
/-- the addresses that stood stand -/
theorem mk_a (hP : MK α ν X G x i e α' ν' X') {k j : Nat} (n : gk k j ≠ G) (n2 : ¬ (k = 2 ∧ j = i)) : α' k j = α k j := by
  obtain ⟨α1, ha, hb, -⟩ := hP
  rw [hb k j n2, ha k j n]
/-- what is not made stands -/
theorem clo_add (hC : CLO ν X) (hP : ADD α ν X i e α' ν' X') (hv : vk ν 1 i = true) (he : vk ν (ek i) e = true) (hs : X 1 i 1 = 0 → X 1 i 2 = 0) : CLO ν' X' := by
  obtain ⟨h0, h1, h2, h3, h4⟩ := hC
  obtain ⟨-, rfl, hx, -, b2, -, b4, b5, b6⟩ := hP
  refine ⟨nuG_old h0, nuG_old h1, fun s z => ?_, fun j hv' hn => ?_, fun i' j hv' hn => ?_⟩
  · rw [nuG_ne (fun z => by cases z)] at z
    exact h2 s z
  · by_cases q : j = i
    · subst q; exact nuG_new ν (2, j)
    · rw [hx 1 j (fun z => q z.2) (fun z => q z.2)] at hn
      rw [vk_nuG (fun z => by have := gk_2 z; omega)] at hv'
      exact nuG_old (h3 j hv' hn)
  · by_cases q : i' = i
    · subst q
      by_cases c1 : (j : Int) < X 1 i' 2
      · rw [b5 j c1] at hn ⊢
        refine vk_up (fun a b z => nuG_old z) (h4 i' j ?_ hn)
        exact Classical.byContradiction fun z => by
          rcases hG : ν 2 i' with _ | _
          · by_cases z1 : X 1 i' 1 = 0
            · have := hs z1; omega
            · rw [h3 i' hv z1] at hG; cases hG
          · exact z hG
      · by_cases c2 : X 1 i' 2 < (j : Int)
        · rcases b6 j c2 with y | ⟨y1, y2⟩
          · omega
          · rw [y2] at hn ⊢
            exact vk_up (fun a b z => nuG_old z) (h4 i' j y1 hn)
        · have ej : j = (X 1 i' 2).toNat := by omega
          subst ej
          rw [b4, Int.toNat_natCast]
          exact vk_up (fun a b z => nuG_old z) he
    · rw [hx 2 i' (fun z => q z.2) (fun z => q z.2)] at hn ⊢
      rw [nuG_ne (fun z => q (by cases z; rfl))] at hv'
      exact vk_up (fun a b z => nuG_old z) (h4 i' j hv' hn)
end MK1
theorem bsT_at {X X' : XM} {s c : Nat} (h6 : X' 6 s c = X 6 s c) (h11 : X' 11 (20 * s + c) = X 11 (20 * s + c)) : ∀ k, bsT X' s c k = bsT X s c k
  | 0 => by
    show (if mvd X' s c = true then (50 : Int) else -1) = if mvd X s c = true then 50 else -1
    unfold mvd
    rw [h6]
  | k + 1 => by
    show (if bsT X' s c k < X' 11 (20 * s + c) k then X' 11 (20 * s + c) k else bsT X' s c k) = if bsT X s c k < X 11 (20 * s + c) k then X 11 (20 * s + c) k else bsT X s c k
    rw [bsT_at h6 h11 k, h11]
theorem wo_mkS {X X' : XM} {n : Nat} {p1 : Int} (h0 : 0 ≤ p1 ∧ p1 ≤ 3) (hm : nS X < 16) (h : WO X) (hn : nS X = (n : Int)) (hP : MKX X (4, n) (xS p1) 1 X') : WO X' := by
  obtain ⟨f1, f2, f3⟩ := hP
  have g2 : ∀ j, gk 2 j ≠ (4, n) := fun j => gk_ne (by show (2 : Nat) ≠ 4; decide)
  have g1 : ∀ j, j < 4 → gk 1 j ≠ (4, n) := fun j hj => gk_ne (by rw [show gk 1 j = (0, 0) by simp [gk, hj]]; show (0 : Nat) ≠ 4; decide)
  have g1w : ∀ j, gk 1 j ≠ (4, n) := fun j => gk_ne (gk_1y j)
  have enC : nC X' = nC X := congrFun (f1 1 0 (g1 0 (by decide)) (by omega) (by omega)) 2
  have enF : nF X' = nF X := congrFun (f1 1 2 (g1 2 (by decide)) (by omega) (by omega)) 2
  have enR : nR X' = nR X := congrFun (f1 1 3 (g1 3 (by decide)) (by omega) (by omega)) 2
  have enS : nS X' = nS X + 1 := f3
  have k0 : X' 0 = X 0 := funext fun j => f1 0 j (gk_ne (by rw [show gk 0 j = (0, j) from rfl]; show (0 : Nat) ≠ 4; decide)) (by omega) (by omega)
  have k3 : X' 3 = X 3 := funext fun j => f1 3 j (gk_ne (by rw [show gk 3 j = (0, j) from rfl]; show (0 : Nat) ≠ 4; decide)) (by omega) (by omega)
  have k12 : X' 12 = X 12 := funext fun j => f1 12 j (gk_ne (by rw [show gk 12 j = (12, j) from rfl]; show (12 : Nat) ≠ 4; decide)) (by omega) (by omega)
  have k13 : X' 13 = X 13 := funext fun j => f1 13 j (gk_ne (by rw [show gk 13 j = (12, j) from rfl]; show (12 : Nat) ≠ 4; decide)) (by omega) (by omega)
  have k14 : X' 14 = X 14 := funext fun j => f1 14 j (gk_ne (by rw [show gk 14 j = (14, j) from rfl]; show (14 : Nat) ≠ 4; decide)) (by omega) (by omega)
  have k15 : X' 15 = X 15 := funext fun j => f1 15 j (gk_ne (by rw [show gk 15 j = (14, j) from rfl]; show (14 : Nat) ≠ 4; decide)) (by omega) (by omega)
  have k16 : X' 16 = X 16 := funext fun j => f1 16 j (gk_ne (by rw [show gk 16 j = (16, j) from rfl]; show (16 : Nat) ≠ 4; decide)) (by omega) (by omega)
  have w1 : ∀ c, X' 1 (4 + c) = X 1 (4 + c) := fun c => f1 1 (4 + c) (g1w _) (by omega) (by omega)
  have w2 : ∀ c, X' 2 (4 + c) = X 2 (4 + c) := fun c => f1 2 (4 + c) (g2 _) (by omega) (by omega)
  have hg : ∀ k s, 4 ≤ k → k ≤ 10 → s ≠ n → gk k s ≠ (4, n) := fun k s h1 h2 q z => q (by rw [gk_4n s k h1 h2] at z; cases z; rfl)
  have a4 : ∀ s, s ≠ n → X' 4 s = X 4 s := fun s q => f1 4 s (hg 4 s (by decide) (by decide) q) (by omega) (by omega)
  have a5 : ∀ s, s ≠ n → X' 5 s = X 5 s := fun s q => f1 5 s (hg 5 s (by decide) (by decide) q) (by omega) (by omega)
  have a6 : ∀ s, s ≠ n → X' 6 s = X 6 s := fun s q => f1 6 s (hg 6 s (by decide) (by decide) q) (by omega) (by omega)
  have a7 : ∀ s, s ≠ n → X' 7 s = X 7 s := fun s q => f1 7 s (hg 7 s (by decide) (by decide) q) (by omega) (by omega)
  have a8 : ∀ s, s ≠ n → X' 8 s = X 8 s := fun s q => f1 8 s (hg 8 s (by decide) (by decide) q) (by omega) (by omega)
  have a9 : ∀ s, s ≠ n → X' 9 s = X 9 s := fun s q => f1 9 s (hg 9 s (by decide) (by decide) q) (by omega) (by omega)
  have a11 : ∀ s c, s ≠ n → c < 20 → X' 11 (20 * s + c) = X 11 (20 * s + c) := fun s c q hc => f1 11 _ (fun z => q (by rw [gk_11n s c hc] at z; cases z; rfl)) (by omega) (by omega)
  have b4 : X' 4 n 0 = p1 := by rw [f2 4 n (gk_4n n 4 (by decide) (by decide))]; rfl
  have b5 : ∀ c, X' 5 n c = 0 := fun c => by rw [f2 5 n (gk_4n n 5 (by decide) (by decide))]; rfl
  have b6 : ∀ c, X' 6 n c = 0 := fun c => by rw [f2 6 n (gk_4n n 6 (by decide) (by decide))]; rfl
  have b9 : ∀ c, X' 9 n c = 0 := fun c => by rw [f2 9 n (gk_4n n 9 (by decide) (by decide))]; rfl
  have b7 : ∀ c, c < 20 → X' 7 n c = -1 := fun c hc => by rw [f2 7 n (gk_4n n 7 (by decide) (by decide))]; exact if_pos hc
  have b8 : ∀ c, c < 20 → X' 8 n c = -1 := fun c hc => by rw [f2 8 n (gk_4n n 8 (by decide) (by decide))]; exact if_pos hc
  have qs := wo_nS h
  unfold WO
  rw [enC, enS, enF, enR, k0, k3, k12, k13, k14, k15, k16]
  exact ⟨wo_nC h, ⟨by omega, by omega⟩, wo_nF h, wo_nR h, wo_day h, wo_term h, wo_crd h, wo_sea h, wo_req h, wo_res h, (fun c hc => by rw [w1 c]; exact wo_wN h c hc), (fun c k hc hk => by rw [w1 c] at hk; rw [w2 c]; have := wo_wA h c k hc hk; exact ⟨this.1, by omega⟩), (fun s hs => by by_cases q : s = n; (rw [q, b4]; exact h0); (rw [a4 s q]; exact wo_maj h s (by omega))), (fun s c hs => by by_cases q : s = n; (rw [q, b5]; exact Or.inl rfl); (rw [a5 s q]; exact wo_t01 h s c hs)), (fun s c hs => by by_cases q : s = n; (rw [q, b6]; exact Or.inl rfl); (rw [a6 s q]; exact wo_m01 h s c hs)), (fun s c hs hc => by by_cases q : s = n; (rw [q, b7 c hc]; decide); (rw [a7 s q]; exact wo_tm h s c (by omega) hc)), (fun s c hs hc => by by_cases q : s = n; (rw [q, b8 c hc]; decide); (rw [a8 s q]; exact wo_bst h s c (by omega) hc)), (fun s c hs hc => by by_cases q : s = n; (rw [q, b9]; decide); (rw [a9 s q]; exact wo_tri h s c (by omega) hc)), (fun s c k hs hc hk => by by_cases q : s = n; (rw [q, b9] at hk; exact absurd hk (by omega)); (rw [a9 s q] at hk; rw [a11 s c q hc]; exact wo_trd h s c k (by omega) hc hk)), (fun s c hs hc => by by_cases q : s = n; (rw [q, b8 c hc, b9]; show (-1 : Int) = if mvd X' n c = true then 50 else -1; unfold mvd; rw [b6]; rfl); (rw [a8 s q, a9 s q, bsT_at (X := X) (congrFun (a6 s q) c) (a11 s c q hc)]; exact wo_bsq h s c (by omega) hc)), (fun s c hs hc1 hc => by by_cases q : s = n; (rw [q, b5, b6, b9]; exact ⟨rfl, rfl, rfl⟩); (rw [a5 s q, a6 s q, a9 s q]; exact wo_far h s c (by omega) hc1 hc)), wo_dep h, wo_dp0 h, wo_fk h, wo_f0 h, wo_f1 h, wo_f2 h, wo_f3 h, wo_f4 h, wo_rul h, wo_r01 h, wo_rm4 h, (fun s c hs hc ht => by by_cases q : s = n; (rw [q, b9]; decide); (rw [a5 s q] at ht; rw [a9 s q]; exact wo_tk3 h s c (by omega) hc ht)), (fun c hc z => by rw [w1 c]; exact wo_w6 h c hc z), (fun c k hc hk => by rw [w1 c] at hk; rw [w2 c]; have q := wo_wA h c k hc hk; rw [a9 _ (by omega)]; exact wo_wt3 h c k hc hk), wo_deg h, (fun s c hs hc1 hc => by by_cases q : s = n; (rw [q, b7 c hc]); (rw [a7 s q]; exact wo_f7 h s c (by omega) hc1 hc)), trivial⟩
theorem wo_mkC {X X' : XM} {n : Nat} {p1 p2 : Int} (h0 : 1 ≤ p1 ∧ p1 ≤ 6) (h1 : 1 ≤ p2 ∧ p2 ≤ 12) (hm : nC X < 20) (h : WO X) (hn : nC X = (n : Int)) (hP : MKX X (12, n) (xC p1 p2) 0 X') : WO X' := by
  obtain ⟨f1, f2, f3⟩ := hP
  have g2 : ∀ j, gk 2 j ≠ (12, n) := fun j => gk_ne (by show (2 : Nat) ≠ 12; decide)
  have g1 : ∀ j, j < 4 → gk 1 j ≠ (12, n) := fun j hj => gk_ne (by rw [show gk 1 j = (0, 0) by simp [gk, hj]]; show (0 : Nat) ≠ 12; decide)
  have enS : nS X' = nS X := congrFun (f1 1 1 (g1 1 (by decide)) (by omega) (by omega)) 2
  have enF : nF X' = nF X := congrFun (f1 1 2 (g1 2 (by decide)) (by omega) (by omega)) 2
  have enR : nR X' = nR X := congrFun (f1 1 3 (g1 3 (by decide)) (by omega) (by omega)) 2
  have enC : nC X' = nC X + 1 := f3
  have k0 : X' 0 = X 0 := funext fun j => f1 0 j (gk_ne (by rw [show gk 0 j = (0, j) from rfl]; show (0 : Nat) ≠ 12; decide)) (by omega) (by omega)
  have k3 : X' 3 = X 3 := funext fun j => f1 3 j (gk_ne (by rw [show gk 3 j = (0, j) from rfl]; show (0 : Nat) ≠ 12; decide)) (by omega) (by omega)
  have k4 : X' 4 = X 4 := funext fun j => f1 4 j (gk_ne (by rw [show gk 4 j = (4, j) from rfl]; show (4 : Nat) ≠ 12; decide)) (by omega) (by omega)
  have k5 : X' 5 = X 5 := funext fun j => f1 5 j (gk_ne (by rw [show gk 5 j = (4, j) from rfl]; show (4 : Nat) ≠ 12; decide)) (by omega) (by omega)
  have k6 : X' 6 = X 6 := funext fun j => f1 6 j (gk_ne (by rw [show gk 6 j = (4, j) from rfl]; show (4 : Nat) ≠ 12; decide)) (by omega) (by omega)
  have k7 : X' 7 = X 7 := funext fun j => f1 7 j (gk_ne (by rw [show gk 7 j = (4, j) from rfl]; show (4 : Nat) ≠ 12; decide)) (by omega) (by omega)
  have k8 : X' 8 = X 8 := funext fun j => f1 8 j (gk_ne (by rw [show gk 8 j = (4, j) from rfl]; show (4 : Nat) ≠ 12; decide)) (by omega) (by omega)
  have k9 : X' 9 = X 9 := funext fun j => f1 9 j (gk_ne (by rw [show gk 9 j = (4, j) from rfl]; show (4 : Nat) ≠ 12; decide)) (by omega) (by omega)
  have k11 : X' 11 = X 11 := funext fun j => f1 11 j (gk_ne (by rw [show gk 11 j = (4, j / 20) from rfl]; show (4 : Nat) ≠ 12; decide)) (by omega) (by omega)
  have k14 : X' 14 = X 14 := funext fun j => f1 14 j (gk_ne (by rw [show gk 14 j = (14, j) from rfl]; show (14 : Nat) ≠ 12; decide)) (by omega) (by omega)
  have k15 : X' 15 = X 15 := funext fun j => f1 15 j (gk_ne (by rw [show gk 15 j = (14, j) from rfl]; show (14 : Nat) ≠ 12; decide)) (by omega) (by omega)
  have k16 : X' 16 = X 16 := funext fun j => f1 16 j (gk_ne (by rw [show gk 16 j = (16, j) from rfl]; show (16 : Nat) ≠ 12; decide)) (by omega) (by omega)
  have w2 : ∀ c, X' 2 (4 + c) = X 2 (4 + c) := fun c => f1 2 (4 + c) (g2 _) (by omega) (by omega)
  obtain ⟨z12, z13, z1⟩ := gk_12n n
  have a12 : ∀ c, c ≠ n → X' 12 c = X 12 c := fun c q => f1 12 c (fun z => q (by cases z; rfl)) (by omega) (by omega)
  have a13 : ∀ c, c ≠ n → X' 13 c = X 13 c := fun c q => f1 13 c (fun z => q (by cases z; rfl)) (by omega) (by omega)
  have a1 : ∀ c, c ≠ n → X' 1 (4 + c) = X 1 (4 + c) := fun c q => f1 1 (4 + c) (fun z => q (by rcases gk_12 z with y | y | y <;> omega)) (by omega) (by omega)
  have b12 : X' 12 n = xC p1 p2 12 n := f2 12 n z12
  have b13 : ∀ m, X' 13 n m = 0 := fun m => by rw [f2 13 n z13]; rfl
  have b1 : X' 1 (4 + n) 2 = 0 := by rw [f2 1 (4 + n) z1]; rfl
  have qs := wo_nC h
  have qf := wo_nF h
  unfold WO
  rw [enC, enS, enF, enR, k0, k3, k4, k5, k6, k7, k8, k9, k11, k14, k15, k16, bsT_cg (X := X) (X' := X') k6 k11]
  exact ⟨⟨by omega, by omega⟩, wo_nS h, wo_nF h, wo_nR h, wo_day h, wo_term h, (fun c hc => by by_cases q : c = n; (rw [q, b12]; exact h0); (rw [a12 c q]; exact wo_crd h c (by omega))), (fun c hc => by by_cases q : c = n; (rw [q, b12]; exact h1); (rw [a12 c q]; exact wo_sea h c (by omega))), (fun c hc => by by_cases q : c = n; (rw [q, b12]; exact ⟨(by show (-1 : Int) ≤ -1; decide), (by show (-1 : Int) < nF X; omega)⟩); (rw [a12 c q]; exact wo_req h c (by omega))), (fun c m hc hm' => by by_cases q : c = n; (rw [q, b13]; exact ⟨(by decide), (by decide)⟩); (rw [a13 c q]; exact wo_res h c m (by omega) hm')), (fun c hc => by by_cases q : c = n; (rw [q, b1]; exact ⟨(by decide), (by decide)⟩); (rw [a1 c q]; exact wo_wN h c (by omega))), (fun c k hc hk => by by_cases q : c = n; (rw [q, b1] at hk; exact absurd hk (by omega)); (rw [a1 c q] at hk; rw [w2 c]; exact wo_wA h c k (by omega) hk)), wo_maj h, wo_t01 h, wo_m01 h, wo_tm h, wo_bst h, wo_tri h, wo_trd h, wo_bsq h, (fun s c hs hc1 hc => wo_far h s c hs (by omega) hc), wo_dep h, wo_dp0 h, wo_fk h, (fun f hf z => by have := wo_f0 h f hf z; exact ⟨this.1, by omega, this.2.2⟩), (fun f hf z => by have := wo_f1 h f hf z; exact ⟨this.1, by omega, this.2.2⟩), wo_f2 h, wo_f3 h, wo_f4 h, wo_rul h, wo_r01 h, wo_rm4 h, wo_tk3 h, (fun c hc z => by by_cases q : c = n; (rw [q, b1]); (rw [a1 c q]; exact wo_w6 h c (by omega) z)), (fun c k hc hk => by by_cases q : c = n; (rw [q, b1] at hk; exact absurd hk (by omega)); (rw [a1 c q] at hk; rw [w2 c]; exact wo_wt3 h c k (by omega) hk)), wo_deg h, (fun s c hs hc1 hc => wo_f7 h s c hs (by omega) hc), trivial⟩
/-- what holds of a formula n of content y over the office -/
def FY (X : XM) (n : Nat) (y : Nat → Int) : Prop := (0 ≤ y 0 ∧ y 0 ≤ 5) ∧ (0 ≤ y 9 ∧ y 9 ≤ 4) ∧ (y 9 = 0 → 0 ≤ y 1 ∧ y 1 < nC X ∧ 0 ≤ y 2 ∧ y 2 ≤ 100 ∧ y 0 = 0) ∧ (y 9 = 1 → 0 ≤ y 1 ∧ y 1 < nC X ∧ y 0 = 0) ∧ (y 9 = 2 → 0 ≤ y 1 ∧ y 1 ≤ 120 ∧ y 0 = 0) ∧ (y 9 = 3 → 0 ≤ y 2 ∧ y 2 < n ∧ 0 ≤ y 3 ∧ y 3 < n ∧ -1 ≤ y 4 ∧ y 4 < n ∧ (y 1 = 1 ∨ y 1 = 2) ∧ (y 4 ≠ -1 → y 1 = 2) ∧ X 16 (y 2).toNat 0 < y 0 ∧ X 16 (y 3).toNat 0 < y 0 ∧ (y 4 ≠ -1 → X 16 (y 4).toNat 0 < y 0)) ∧ (y 9 = 4 → 0 ≤ y 1 ∧ y 1 < n ∧ X 16 (y 1).toNat 0 < y 0)
theorem wo_mkF {X X' : XM} {n : Nat} {y : Nat → Int} (hy : FY X n y) (hm : nF X < 60) (h : WO X) (hn : nF X = (n : Int)) (hP : MKX X (16, n) (fun _ _ => y) 2 X') : WO X' := by
  obtain ⟨f1, f2, f3⟩ := hP
  have g2 : ∀ j, gk 2 j ≠ (16, n) := fun j => gk_ne (by show (2 : Nat) ≠ 16; decide)
  have g1 : ∀ j, j < 4 → gk 1 j ≠ (16, n) := fun j hj => gk_ne (by rw [show gk 1 j = (0, 0) by simp [gk, hj]]; show (0 : Nat) ≠ 16; decide)
  have g1w : ∀ j, gk 1 j ≠ (16, n) := fun j => gk_ne (gk_1x j (a := 16))
  have enC : nC X' = nC X := congrFun (f1 1 0 (g1 0 (by decide)) (by omega) (by omega)) 2
  have enS : nS X' = nS X := congrFun (f1 1 1 (g1 1 (by decide)) (by omega) (by omega)) 2
  have enR : nR X' = nR X := congrFun (f1 1 3 (g1 3 (by decide)) (by omega) (by omega)) 2
  have enF : nF X' = nF X + 1 := f3
  have k0 : X' 0 = X 0 := funext fun j => f1 0 j (gk_ne (by rw [show gk 0 j = (0, j) from rfl]; show (0 : Nat) ≠ 16; decide)) (by omega) (by omega)
  have k3 : X' 3 = X 3 := funext fun j => f1 3 j (gk_ne (by rw [show gk 3 j = (0, j) from rfl]; show (0 : Nat) ≠ 16; decide)) (by omega) (by omega)
  have k4 : X' 4 = X 4 := funext fun j => f1 4 j (gk_ne (by rw [show gk 4 j = (4, j) from rfl]; show (4 : Nat) ≠ 16; decide)) (by omega) (by omega)
  have k5 : X' 5 = X 5 := funext fun j => f1 5 j (gk_ne (by rw [show gk 5 j = (4, j) from rfl]; show (4 : Nat) ≠ 16; decide)) (by omega) (by omega)
  have k6 : X' 6 = X 6 := funext fun j => f1 6 j (gk_ne (by rw [show gk 6 j = (4, j) from rfl]; show (4 : Nat) ≠ 16; decide)) (by omega) (by omega)
  have k7 : X' 7 = X 7 := funext fun j => f1 7 j (gk_ne (by rw [show gk 7 j = (4, j) from rfl]; show (4 : Nat) ≠ 16; decide)) (by omega) (by omega)
  have k8 : X' 8 = X 8 := funext fun j => f1 8 j (gk_ne (by rw [show gk 8 j = (4, j) from rfl]; show (4 : Nat) ≠ 16; decide)) (by omega) (by omega)
  have k9 : X' 9 = X 9 := funext fun j => f1 9 j (gk_ne (by rw [show gk 9 j = (4, j) from rfl]; show (4 : Nat) ≠ 16; decide)) (by omega) (by omega)
  have k11 : X' 11 = X 11 := funext fun j => f1 11 j (gk_ne (by rw [show gk 11 j = (4, j / 20) from rfl]; show (4 : Nat) ≠ 16; decide)) (by omega) (by omega)
  have k12 : X' 12 = X 12 := funext fun j => f1 12 j (gk_ne (by rw [show gk 12 j = (12, j) from rfl]; show (12 : Nat) ≠ 16; decide)) (by omega) (by omega)
  have k13 : X' 13 = X 13 := funext fun j => f1 13 j (gk_ne (by rw [show gk 13 j = (12, j) from rfl]; show (12 : Nat) ≠ 16; decide)) (by omega) (by omega)
  have k14 : X' 14 = X 14 := funext fun j => f1 14 j (gk_ne (by rw [show gk 14 j = (14, j) from rfl]; show (14 : Nat) ≠ 16; decide)) (by omega) (by omega)
  have k15 : X' 15 = X 15 := funext fun j => f1 15 j (gk_ne (by rw [show gk 15 j = (14, j) from rfl]; show (14 : Nat) ≠ 16; decide)) (by omega) (by omega)
  have w1 : ∀ c, X' 1 (4 + c) = X 1 (4 + c) := fun c => f1 1 (4 + c) (g1w _) (by omega) (by omega)
  have w2 : ∀ c, X' 2 (4 + c) = X 2 (4 + c) := fun c => f1 2 (4 + c) (g2 _) (by omega) (by omega)
  have a16 : ∀ c, c ≠ n → X' 16 c = X 16 c := fun c q => f1 16 c (fun z => q (gk_16 z).2) (by omega) (by omega)
  have b16 : X' 16 n = y := f2 16 n rfl
  have qs := wo_nF h
  unfold WO
  rw [enC, enS, enF, enR, k0, k3, k4, k5, k6, k7, k8, k9, k11, k12, k13, k14, k15, bsT_cg (X := X) (X' := X') k6 k11]
  exact ⟨wo_nC h, wo_nS h, ⟨by omega, by omega⟩, wo_nR h, wo_day h, wo_term h, wo_crd h, wo_sea h, (fun c hc => by have := wo_req h c hc; exact ⟨this.1, by omega⟩), wo_res h, (fun c hc => by rw [w1 c]; exact wo_wN h c hc), (fun c k hc hk => by rw [w1 c] at hk; rw [w2 c]; exact wo_wA h c k hc hk), wo_maj h, wo_t01 h, wo_m01 h, wo_tm h, wo_bst h, wo_tri h, wo_trd h, wo_bsq h, wo_far h, (fun f hf => by by_cases q : f = n; (rw [q, b16]; exact hy.1); (rw [a16 f q]; exact wo_dep h f (by omega))), (fun f => by by_cases q : f = n; (rw [q, b16]; exact hy.1.1); (rw [a16 f q]; exact wo_dp0 h f)), (fun f hf => by by_cases q : f = n; (rw [q, b16]; exact hy.2.1); (rw [a16 f q]; exact wo_fk h f (by omega))), (fun f hf z => by by_cases q : f = n; (rw [q, b16] at z ⊢; exact hy.2.2.1 z); (rw [a16 f q] at z ⊢; exact wo_f0 h f (by omega) z)), (fun f hf z => by by_cases q : f = n; (rw [q, b16] at z ⊢; exact hy.2.2.2.1 z); (rw [a16 f q] at z ⊢; exact wo_f1 h f (by omega) z)), (fun f hf z => by by_cases q : f = n; (rw [q, b16] at z ⊢; exact hy.2.2.2.2.1 z); (rw [a16 f q] at z ⊢; exact wo_f2 h f (by omega) z)), (fun f hf z => by by_cases q : f = n; (rw [q, b16] at z ⊢; have t := hy.2.2.2.2.2.1 z; rw [a16 (y 2).toNat (by omega), a16 (y 3).toNat (by omega)]; refine ⟨t.1, t.2.1, t.2.2.1, t.2.2.2.1, t.2.2.2.2.1, t.2.2.2.2.2.1, t.2.2.2.2.2.2.1, t.2.2.2.2.2.2.2.1, t.2.2.2.2.2.2.2.2.1, t.2.2.2.2.2.2.2.2.2.1, fun w => ?_⟩; rw [a16 (y 4).toNat (by omega)]; exact t.2.2.2.2.2.2.2.2.2.2 w); (have t := wo_f3 h f (by omega) (by rw [a16 f q] at z; exact z); rw [a16 f q, a16 (X 16 f 2).toNat (by omega), a16 (X 16 f 3).toNat (by omega)]; refine ⟨t.1, t.2.1, t.2.2.1, t.2.2.2.1, t.2.2.2.2.1, t.2.2.2.2.2.1, t.2.2.2.2.2.2.1, t.2.2.2.2.2.2.2.1, t.2.2.2.2.2.2.2.2.1, t.2.2.2.2.2.2.2.2.2.1, fun w => ?_⟩; rw [a16 (X 16 f 4).toNat (by omega)]; exact t.2.2.2.2.2.2.2.2.2.2 w)), (fun f hf z => by by_cases q : f = n; (rw [q, b16] at z ⊢; have t := hy.2.2.2.2.2.2 z; rw [a16 (y 1).toNat (by omega)]; exact t); (have t := wo_f4 h f (by omega) (by rw [a16 f q] at z; exact z); rw [a16 f q, a16 (X 16 f 1).toNat (by omega)]; exact t)), wo_rul h, wo_r01 h, wo_rm4 h, wo_tk3 h, (fun c hc z => by rw [w1 c]; exact wo_w6 h c hc z), (fun c k hc hk => by rw [w1 c] at hk; rw [w2 c]; exact wo_wt3 h c k hc hk), wo_deg h, wo_f7 h, trivial⟩
