/-! THE REFERENCE SAYS WHAT IS MADE -/
theorem bitsE_z {f : Nat → Int} (h : ∀ c, c < 20 → f c = 0) : bitsE 0 f := ⟨by decide, by decide, fun c hc => by
  rw [h c hc]
  simp⟩
theorem rm_mkC {O O' X X' : XM} {n : Nat} {p1 p2 : Int} (hm : n < 20) (h : RM O X) (hO : WO O) (hn : nC O = (n : Int)) (hP : MKX O (12, n) (xC p1 p2) 0 O') (hx : ∀ k, 44 ≤ k → k ≤ 68 → k ≠ 44 → k ≠ 45 → k ≠ 47 → X' k = X k) (h40 : ∀ j, j ≠ 0 → X' 40 0 j = if j = 3 then (n : Int) + 1 else X 40 0 j) (h44 : ∀ j, X' 44 0 j = if j = n then p1 else X 44 0 j) (h45 : ∀ j, X' 45 0 j = if j = n then p2 else X 45 0 j) (h47 : ∀ j, X' 47 0 j = if j = n then -1 else X 47 0 j) : RM O' X' := by
  obtain ⟨f1, f2, f3⟩ := hP
  have g2 : ∀ j, gk 2 j ≠ (12, n) := fun j => gk_ne (by show (2 : Nat) ≠ 12; decide)
  have g1 : ∀ j, j < 4 → gk 1 j ≠ (12, n) := fun j hj => gk_ne (by rw [show gk 1 j = (0, 0) by simp [gk, hj]]; show (0 : Nat) ≠ 12; decide)
  have enS : nS O' = nS O := congrFun (f1 1 1 (g1 1 (by decide)) (by omega) (by omega)) 2
  have enF : nF O' = nF O := congrFun (f1 1 2 (g1 2 (by decide)) (by omega) (by omega)) 2
  have enR : nR O' = nR O := congrFun (f1 1 3 (g1 3 (by decide)) (by omega) (by omega)) 2
  have enC : nC O' = nC O + 1 := f3
  have k0 : O' 0 = O 0 := funext fun j => f1 0 j (gk_ne (by rw [show gk 0 j = (0, j) from rfl]; show (0 : Nat) ≠ 12; decide)) (by omega) (by omega)
  have k3 : O' 3 = O 3 := funext fun j => f1 3 j (gk_ne (by rw [show gk 3 j = (0, j) from rfl]; show (0 : Nat) ≠ 12; decide)) (by omega) (by omega)
  have k4 : O' 4 = O 4 := funext fun j => f1 4 j (gk_ne (by rw [show gk 4 j = (4, j) from rfl]; show (4 : Nat) ≠ 12; decide)) (by omega) (by omega)
  have k5 : O' 5 = O 5 := funext fun j => f1 5 j (gk_ne (by rw [show gk 5 j = (4, j) from rfl]; show (4 : Nat) ≠ 12; decide)) (by omega) (by omega)
  have k6 : O' 6 = O 6 := funext fun j => f1 6 j (gk_ne (by rw [show gk 6 j = (4, j) from rfl]; show (4 : Nat) ≠ 12; decide)) (by omega) (by omega)
  have k7 : O' 7 = O 7 := funext fun j => f1 7 j (gk_ne (by rw [show gk 7 j = (4, j) from rfl]; show (4 : Nat) ≠ 12; decide)) (by omega) (by omega)
  have k9 : O' 9 = O 9 := funext fun j => f1 9 j (gk_ne (by rw [show gk 9 j = (4, j) from rfl]; show (4 : Nat) ≠ 12; decide)) (by omega) (by omega)
  have k11 : O' 11 = O 11 := funext fun j => f1 11 j (gk_ne (by rw [show gk 11 j = (4, j / 20) from rfl]; show (4 : Nat) ≠ 12; decide)) (by omega) (by omega)
  have k14 : O' 14 = O 14 := funext fun j => f1 14 j (gk_ne (by rw [show gk 14 j = (14, j) from rfl]; show (14 : Nat) ≠ 12; decide)) (by omega) (by omega)
  have k15 : O' 15 = O 15 := funext fun j => f1 15 j (gk_ne (by rw [show gk 15 j = (14, j) from rfl]; show (14 : Nat) ≠ 12; decide)) (by omega) (by omega)
  have k16 : O' 16 = O 16 := funext fun j => f1 16 j (gk_ne (by rw [show gk 16 j = (16, j) from rfl]; show (16 : Nat) ≠ 12; decide)) (by omega) (by omega)
  have w2 : ∀ c, O' 2 (4 + c) = O 2 (4 + c) := fun c => f1 2 (4 + c) (g2 _) (by omega) (by omega)
  have x46 : X' 46 = X 46 := hx 46 (by decide) (by decide) (by decide) (by decide) (by decide)
  have x48 : X' 48 = X 48 := hx 48 (by decide) (by decide) (by decide) (by decide) (by decide)
  have x49 : X' 49 = X 49 := hx 49 (by decide) (by decide) (by decide) (by decide) (by decide)
  have x51 : X' 51 = X 51 := hx 51 (by decide) (by decide) (by decide) (by decide) (by decide)
  have x52 : X' 52 = X 52 := hx 52 (by decide) (by decide) (by decide) (by decide) (by decide)
  have x53 : X' 53 = X 53 := hx 53 (by decide) (by decide) (by decide) (by decide) (by decide)
  have x54 : X' 54 = X 54 := hx 54 (by decide) (by decide) (by decide) (by decide) (by decide)
  have x55 : X' 55 = X 55 := hx 55 (by decide) (by decide) (by decide) (by decide) (by decide)
  have x56 : X' 56 = X 56 := hx 56 (by decide) (by decide) (by decide) (by decide) (by decide)
  have x58 : X' 58 = X 58 := hx 58 (by decide) (by decide) (by decide) (by decide) (by decide)
  have x59 : X' 59 = X 59 := hx 59 (by decide) (by decide) (by decide) (by decide) (by decide)
  have x60 : X' 60 = X 60 := hx 60 (by decide) (by decide) (by decide) (by decide) (by decide)
  have x61 : X' 61 = X 61 := hx 61 (by decide) (by decide) (by decide) (by decide) (by decide)
  have x62 : X' 62 = X 62 := hx 62 (by decide) (by decide) (by decide) (by decide) (by decide)
  have x64 : X' 64 = X 64 := hx 64 (by decide) (by decide) (by decide) (by decide) (by decide)
  have x65 : X' 65 = X 65 := hx 65 (by decide) (by decide) (by decide) (by decide) (by decide)
  have x66 : X' 66 = X 66 := hx 66 (by decide) (by decide) (by decide) (by decide) (by decide)
  have x67 : X' 67 = X 67 := hx 67 (by decide) (by decide) (by decide) (by decide) (by decide)
  have x68 : X' 68 = X 68 := hx 68 (by decide) (by decide) (by decide) (by decide) (by decide)
  have s1 : X' 40 0 1 = X 40 0 1 := by rw [h40 1 (by decide), if_neg (by decide)]
  have s2 : X' 40 0 2 = X 40 0 2 := by rw [h40 2 (by decide), if_neg (by decide)]
  have s3 : X' 40 0 3 = (n : Int) + 1 := by rw [h40 3 (by decide), if_pos (by decide)]
  have s10 : X' 40 0 10 = X 40 0 10 := by rw [h40 10 (by decide), if_neg (by decide)]
  have s17 : X' 40 0 17 = X 40 0 17 := by rw [h40 17 (by decide), if_neg (by decide)]
  have s23 : X' 40 0 23 = X 40 0 23 := by rw [h40 23 (by decide), if_neg (by decide)]
  obtain ⟨z12, z13, z1⟩ := gk_12n n
  have a12 : ∀ c, c ≠ n → O' 12 c = O 12 c := fun c q => f1 12 c (fun z => q (by cases z; rfl)) (by omega) (by omega)
  have a13 : ∀ c, c ≠ n → O' 13 c = O 13 c := fun c q => f1 13 c (fun z => q (by cases z; rfl)) (by omega) (by omega)
  have a1 : ∀ c, c ≠ n → O' 1 (4 + c) = O 1 (4 + c) := fun c q => f1 1 (4 + c) (fun z => q (by rcases gk_12 z with y | y | y <;> omega)) (by omega) (by omega)
  have b12 : O' 12 n = xC p1 p2 12 n := f2 12 n z12
  have b13 : ∀ m, O' 13 n m = 0 := fun m => by rw [f2 13 n z13]; rfl
  have b1 : O' 1 (4 + n) 2 = 0 := by rw [f2 1 (4 + n) z1]; rfl
  unfold RM
  rw [enC, enS, enF, enR, k0, k3, k4, k5, k6, k7, k9, k11, k14, k15, k16, x46, x48, x49, x51, x52, x53, x54, x55, x56, x58, x59, x60, x61, x62, x64, x65, x66, x67, x68, s1, s2, s3, s10, s17, s23]
  exact ⟨rm_day h, rm_term h, (by omega), rm_nS h, rm_nF h, rm_nR h, (fun c hc => by rw [h44]; by_cases q : c = n; (rw [if_pos q, q, b12]; rfl); (rw [if_neg q, a12 c q]; exact rm_crd h c (by omega))), (fun c hc => by rw [h45]; by_cases q : c = n; (rw [if_pos q, q, b12]; rfl); (rw [if_neg q, a12 c q]; exact rm_sea h c (by omega))), (fun c m hc hm' => by by_cases q : c = n; (rw [q, b13]; exact rm_res0 h n m (by omega) hm hm'); (rw [a13 c q]; exact rm_res h c m (by omega) hm')), (fun c m hc1 hc hm' => rm_res0 h c m (by omega) hc hm'), (fun c hc => by rw [h47]; by_cases q : c = n; (rw [if_pos q, q, b12]; rfl); (rw [if_neg q, a12 c q]; exact rm_req h c (by omega))), (fun c hc => by by_cases q : c = n; (rw [q, b1]; exact rm_wN0 h n (by omega) hm); (rw [a1 c q]; exact rm_wN h c (by omega))), (fun c hc1 hc => rm_wN0 h c (by omega) hc), (fun c k hc hk => by by_cases q : c = n; (rw [q, b1] at hk; exact absurd hk (by omega)); (rw [a1 c q] at hk; rw [w2 c]; exact rm_wA h c k (by omega) hk)), rm_maj h, rm_tak h, rm_tak0 h, rm_mov h, rm_mov0 h, rm_tm h, rm_tm0 h, rm_tri h, rm_tri0 h, rm_trd h, rm_dep h, rm_f0 h, rm_f1 h, rm_f2 h, rm_f3 h, rm_f4 h, rm_rul h, rm_alw h, rm_deg h, trivial⟩
theorem rm_mkS {O O' X X' : XM} {n : Nat} {p1 : Int} (hm : n < 16) (h : RM O X) (hO : WO O) (hn : nS O = (n : Int)) (hP : MKX O (4, n) (xS p1) 1 O') (hx : ∀ k, 44 ≤ k → k ≤ 68 → k ≠ 51 → X' k = X k) (h40 : ∀ j, j ≠ 0 → X' 40 0 j = if j = 10 then (n : Int) + 1 else X 40 0 j) (h51 : ∀ j, X' 51 0 j = if j = n then p1 else X 51 0 j) : RM O' X' := by
  obtain ⟨f1, f2, f3⟩ := hP
  have g2 : ∀ j, gk 2 j ≠ (4, n) := fun j => gk_ne (by show (2 : Nat) ≠ 4; decide)
  have g1 : ∀ j, j < 4 → gk 1 j ≠ (4, n) := fun j hj => gk_ne (by rw [show gk 1 j = (0, 0) by simp [gk, hj]]; show (0 : Nat) ≠ 4; decide)
  have enC : nC O' = nC O := congrFun (f1 1 0 (g1 0 (by decide)) (by omega) (by omega)) 2
  have enF : nF O' = nF O := congrFun (f1 1 2 (g1 2 (by decide)) (by omega) (by omega)) 2
  have enR : nR O' = nR O := congrFun (f1 1 3 (g1 3 (by decide)) (by omega) (by omega)) 2
  have enS : nS O' = nS O + 1 := f3
  have k0 : O' 0 = O 0 := funext fun j => f1 0 j (gk_ne (by rw [show gk 0 j = (0, j) from rfl]; show (0 : Nat) ≠ 4; decide)) (by omega) (by omega)
  have k3 : O' 3 = O 3 := funext fun j => f1 3 j (gk_ne (by rw [show gk 3 j = (0, j) from rfl]; show (0 : Nat) ≠ 4; decide)) (by omega) (by omega)
  have k12 : O' 12 = O 12 := funext fun j => f1 12 j (gk_ne (by rw [show gk 12 j = (12, j) from rfl]; show (12 : Nat) ≠ 4; decide)) (by omega) (by omega)
  have k13 : O' 13 = O 13 := funext fun j => f1 13 j (gk_ne (by rw [show gk 13 j = (12, j) from rfl]; show (12 : Nat) ≠ 4; decide)) (by omega) (by omega)
  have k14 : O' 14 = O 14 := funext fun j => f1 14 j (gk_ne (by rw [show gk 14 j = (14, j) from rfl]; show (14 : Nat) ≠ 4; decide)) (by omega) (by omega)
  have k15 : O' 15 = O 15 := funext fun j => f1 15 j (gk_ne (by rw [show gk 15 j = (14, j) from rfl]; show (14 : Nat) ≠ 4; decide)) (by omega) (by omega)
  have k16 : O' 16 = O 16 := funext fun j => f1 16 j (gk_ne (by rw [show gk 16 j = (16, j) from rfl]; show (16 : Nat) ≠ 4; decide)) (by omega) (by omega)
  have w1 : ∀ c, O' 1 (4 + c) = O 1 (4 + c) := fun c => f1 1 (4 + c) (gk_ne (gk_1x _ (a := 4))) (by omega) (by omega)
  have w2 : ∀ c, O' 2 (4 + c) = O 2 (4 + c) := fun c => f1 2 (4 + c) (g2 _) (by omega) (by omega)
  have x44 : X' 44 = X 44 := hx 44 (by decide) (by decide) (by decide)
  have x45 : X' 45 = X 45 := hx 45 (by decide) (by decide) (by decide)
  have x46 : X' 46 = X 46 := hx 46 (by decide) (by decide) (by decide)
  have x47 : X' 47 = X 47 := hx 47 (by decide) (by decide) (by decide)
  have x48 : X' 48 = X 48 := hx 48 (by decide) (by decide) (by decide)
  have x49 : X' 49 = X 49 := hx 49 (by decide) (by decide) (by decide)
  have x52 : X' 52 = X 52 := hx 52 (by decide) (by decide) (by decide)
  have x53 : X' 53 = X 53 := hx 53 (by decide) (by decide) (by decide)
  have x54 : X' 54 = X 54 := hx 54 (by decide) (by decide) (by decide)
  have x55 : X' 55 = X 55 := hx 55 (by decide) (by decide) (by decide)
  have x56 : X' 56 = X 56 := hx 56 (by decide) (by decide) (by decide)
  have x58 : X' 58 = X 58 := hx 58 (by decide) (by decide) (by decide)
  have x59 : X' 59 = X 59 := hx 59 (by decide) (by decide) (by decide)
  have x60 : X' 60 = X 60 := hx 60 (by decide) (by decide) (by decide)
  have x61 : X' 61 = X 61 := hx 61 (by decide) (by decide) (by decide)
  have x62 : X' 62 = X 62 := hx 62 (by decide) (by decide) (by decide)
  have x64 : X' 64 = X 64 := hx 64 (by decide) (by decide) (by decide)
  have x65 : X' 65 = X 65 := hx 65 (by decide) (by decide) (by decide)
  have x66 : X' 66 = X 66 := hx 66 (by decide) (by decide) (by decide)
  have x67 : X' 67 = X 67 := hx 67 (by decide) (by decide) (by decide)
  have x68 : X' 68 = X 68 := hx 68 (by decide) (by decide) (by decide)
  have s1 : X' 40 0 1 = X 40 0 1 := by rw [h40 1 (by decide), if_neg (by decide)]
  have s2 : X' 40 0 2 = X 40 0 2 := by rw [h40 2 (by decide), if_neg (by decide)]
  have s3 : X' 40 0 3 = X 40 0 3 := by rw [h40 3 (by decide), if_neg (by decide)]
  have s10 : X' 40 0 10 = (n : Int) + 1 := by rw [h40 10 (by decide), if_pos (by decide)]
  have s17 : X' 40 0 17 = X 40 0 17 := by rw [h40 17 (by decide), if_neg (by decide)]
  have s23 : X' 40 0 23 = X 40 0 23 := by rw [h40 23 (by decide), if_neg (by decide)]
  have hg : ∀ k s, 4 ≤ k → k ≤ 10 → s ≠ n → gk k s ≠ (4, n) := fun k s h1 h2 q z => q (by rw [gk_4n s k h1 h2] at z; cases z; rfl)
  have a4 : ∀ s, s ≠ n → O' 4 s = O 4 s := fun s q => f1 4 s (hg 4 s (by decide) (by decide) q) (by omega) (by omega)
  have a5 : ∀ s, s ≠ n → O' 5 s = O 5 s := fun s q => f1 5 s (hg 5 s (by decide) (by decide) q) (by omega) (by omega)
  have a6 : ∀ s, s ≠ n → O' 6 s = O 6 s := fun s q => f1 6 s (hg 6 s (by decide) (by decide) q) (by omega) (by omega)
  have a7 : ∀ s, s ≠ n → O' 7 s = O 7 s := fun s q => f1 7 s (hg 7 s (by decide) (by decide) q) (by omega) (by omega)
  have a9 : ∀ s, s ≠ n → O' 9 s = O 9 s := fun s q => f1 9 s (hg 9 s (by decide) (by decide) q) (by omega) (by omega)
  have a11 : ∀ s c, s ≠ n → c < 20 → O' 11 (20 * s + c) = O 11 (20 * s + c) := fun s c q hc => f1 11 _ (fun z => q (by rw [gk_11n s c hc] at z; cases z; rfl)) (by omega) (by omega)
  have b4 : O' 4 n 0 = p1 := by rw [f2 4 n (gk_4n n 4 (by decide) (by decide))]; rfl
  have b5 : ∀ c, O' 5 n c = 0 := fun c => by rw [f2 5 n (gk_4n n 5 (by decide) (by decide))]; rfl
  have b6 : ∀ c, O' 6 n c = 0 := fun c => by rw [f2 6 n (gk_4n n 6 (by decide) (by decide))]; rfl
  have b9 : ∀ c, O' 9 n c = 0 := fun c => by rw [f2 9 n (gk_4n n 9 (by decide) (by decide))]; rfl
  have b7 : ∀ c, c < 20 → O' 7 n c = -1 := fun c hc => by rw [f2 7 n (gk_4n n 7 (by decide) (by decide))]; exact if_pos hc
  unfold RM
  rw [enC, enS, enF, enR, k0, k3, k12, k13, k14, k15, k16, x44, x45, x46, x47, x48, x49, x52, x53, x54, x55, x56, x58, x59, x60, x61, x62, x64, x65, x66, x67, x68, s1, s2, s3, s10, s17, s23]
  exact ⟨rm_day h, rm_term h, rm_nC h, (by omega), rm_nF h, rm_nR h, rm_crd h, rm_sea h, rm_res h, rm_res0 h, rm_req h, (fun c hc => by rw [w1 c]; exact rm_wN h c hc), rm_wN0 h, (fun c k hc hk => by rw [w1 c] at hk; rw [w2 c]; exact rm_wA h c k hc hk), (fun s hs => by rw [h51]; by_cases q : s = n; (rw [if_pos q, q, b4]); (rw [if_neg q, a4 s q]; exact rm_maj h s (by omega))), (fun s hs => by by_cases q : s = n; (rw [q, rm_tak0 h n (by omega) hm]; exact bitsE_z (fun c _ => b5 c)); (rw [a5 s q]; exact rm_tak h s (by omega))), (fun s hs1 hs => rm_tak0 h s (by omega) hs), (fun s hs => by by_cases q : s = n; (rw [q, rm_mov0 h n (by omega) hm]; exact bitsE_z (fun c _ => b6 c)); (rw [a6 s q]; exact rm_mov h s (by omega))), (fun s hs1 hs => rm_mov0 h s (by omega) hs), (fun s c hs hc => by by_cases q : s = n; (rw [q, b7 c hc]; exact rm_tm0 h n c (by omega) hm hc); (rw [a7 s q]; exact rm_tm h s c (by omega) hc)), (fun s c hs1 hs hc => rm_tm0 h s c (by omega) hs hc), (fun s c hs hc => by by_cases q : s = n; (rw [q, b9 c]; exact rm_tri0 h n c (by omega) hm hc); (rw [a9 s q]; exact rm_tri h s c (by omega) hc)), (fun s c hs1 hs hc => rm_tri0 h s c (by omega) hs hc), (fun s c k hs hc hk => by by_cases q : s = n; (rw [q, b9 c] at hk; exact absurd hk (by omega)); (rw [a9 s q] at hk; rw [a11 s c q hc]; exact rm_trd h s c k (by omega) hc hk)), rm_dep h, rm_f0 h, rm_f1 h, rm_f2 h, rm_f3 h, rm_f4 h, rm_rul h, rm_alw h, rm_deg h, trivial⟩
theorem rm_mkR {O O' X X' : XM} {n : Nat} {p1 p2 p3 : Int} (h : RM O X) (hO : WO O) (hn : nR O = (n : Int)) (hP : MKX O (14, n) (xR p1 p2 p3) 3 O') (hx : ∀ k, 44 ≤ k → k ≤ 68 → k ≠ 64 → k ≠ 65 → k ≠ 66 → k ≠ 67 → X' k = X k) (h40 : ∀ j, j ≠ 0 → X' 40 0 j = if j = 23 then (n : Int) + 1 else X 40 0 j) (h64 : ∀ j, X' 64 0 j = if j = n then p1 else X 64 0 j) (h65 : ∀ j, X' 65 0 j = if j = n then p2 else X 65 0 j) (h66 : ∀ j, X' 66 0 j = if j = n then p3 else X 66 0 j) (h67 : ∀ j, X' 67 0 j = if j = n then 0 else X 67 0 j) : RM O' X' := by
  obtain ⟨f1, f2, f3⟩ := hP
  have g2 : ∀ j, gk 2 j ≠ (14, n) := fun j => gk_ne (by show (2 : Nat) ≠ 14; decide)
  have g1 : ∀ j, j < 4 → gk 1 j ≠ (14, n) := fun j hj => gk_ne (by rw [show gk 1 j = (0, 0) by simp [gk, hj]]; show (0 : Nat) ≠ 14; decide)
  have enC : nC O' = nC O := congrFun (f1 1 0 (g1 0 (by decide)) (by omega) (by omega)) 2
  have enS : nS O' = nS O := congrFun (f1 1 1 (g1 1 (by decide)) (by omega) (by omega)) 2
  have enF : nF O' = nF O := congrFun (f1 1 2 (g1 2 (by decide)) (by omega) (by omega)) 2
  have enR : nR O' = nR O + 1 := f3
  have k0 : O' 0 = O 0 := funext fun j => f1 0 j (gk_ne (by rw [show gk 0 j = (0, j) from rfl]; show (0 : Nat) ≠ 14; decide)) (by omega) (by omega)
  have k3 : O' 3 = O 3 := funext fun j => f1 3 j (gk_ne (by rw [show gk 3 j = (0, j) from rfl]; show (0 : Nat) ≠ 14; decide)) (by omega) (by omega)
  have k4 : O' 4 = O 4 := funext fun j => f1 4 j (gk_ne (by rw [show gk 4 j = (4, j) from rfl]; show (4 : Nat) ≠ 14; decide)) (by omega) (by omega)
  have k5 : O' 5 = O 5 := funext fun j => f1 5 j (gk_ne (by rw [show gk 5 j = (4, j) from rfl]; show (4 : Nat) ≠ 14; decide)) (by omega) (by omega)
  have k6 : O' 6 = O 6 := funext fun j => f1 6 j (gk_ne (by rw [show gk 6 j = (4, j) from rfl]; show (4 : Nat) ≠ 14; decide)) (by omega) (by omega)
  have k7 : O' 7 = O 7 := funext fun j => f1 7 j (gk_ne (by rw [show gk 7 j = (4, j) from rfl]; show (4 : Nat) ≠ 14; decide)) (by omega) (by omega)
  have k9 : O' 9 = O 9 := funext fun j => f1 9 j (gk_ne (by rw [show gk 9 j = (4, j) from rfl]; show (4 : Nat) ≠ 14; decide)) (by omega) (by omega)
  have k11 : O' 11 = O 11 := funext fun j => f1 11 j (gk_ne (by rw [show gk 11 j = (4, j / 20) from rfl]; show (4 : Nat) ≠ 14; decide)) (by omega) (by omega)
  have k12 : O' 12 = O 12 := funext fun j => f1 12 j (gk_ne (by rw [show gk 12 j = (12, j) from rfl]; show (12 : Nat) ≠ 14; decide)) (by omega) (by omega)
  have k13 : O' 13 = O 13 := funext fun j => f1 13 j (gk_ne (by rw [show gk 13 j = (12, j) from rfl]; show (12 : Nat) ≠ 14; decide)) (by omega) (by omega)
  have k16 : O' 16 = O 16 := funext fun j => f1 16 j (gk_ne (by rw [show gk 16 j = (16, j) from rfl]; show (16 : Nat) ≠ 14; decide)) (by omega) (by omega)
  have w1 : ∀ c, O' 1 (4 + c) = O 1 (4 + c) := fun c => f1 1 (4 + c) (gk_ne (gk_1x _ (a := 14))) (by omega) (by omega)
  have w2 : ∀ c, O' 2 (4 + c) = O 2 (4 + c) := fun c => f1 2 (4 + c) (g2 _) (by omega) (by omega)
  have x44 : X' 44 = X 44 := hx 44 (by decide) (by decide) (by decide) (by decide) (by decide) (by decide)
  have x45 : X' 45 = X 45 := hx 45 (by decide) (by decide) (by decide) (by decide) (by decide) (by decide)
  have x46 : X' 46 = X 46 := hx 46 (by decide) (by decide) (by decide) (by decide) (by decide) (by decide)
  have x47 : X' 47 = X 47 := hx 47 (by decide) (by decide) (by decide) (by decide) (by decide) (by decide)
  have x48 : X' 48 = X 48 := hx 48 (by decide) (by decide) (by decide) (by decide) (by decide) (by decide)
  have x49 : X' 49 = X 49 := hx 49 (by decide) (by decide) (by decide) (by decide) (by decide) (by decide)
  have x51 : X' 51 = X 51 := hx 51 (by decide) (by decide) (by decide) (by decide) (by decide) (by decide)
  have x52 : X' 52 = X 52 := hx 52 (by decide) (by decide) (by decide) (by decide) (by decide) (by decide)
  have x53 : X' 53 = X 53 := hx 53 (by decide) (by decide) (by decide) (by decide) (by decide) (by decide)
  have x54 : X' 54 = X 54 := hx 54 (by decide) (by decide) (by decide) (by decide) (by decide) (by decide)
  have x55 : X' 55 = X 55 := hx 55 (by decide) (by decide) (by decide) (by decide) (by decide) (by decide)
  have x56 : X' 56 = X 56 := hx 56 (by decide) (by decide) (by decide) (by decide) (by decide) (by decide)
  have x58 : X' 58 = X 58 := hx 58 (by decide) (by decide) (by decide) (by decide) (by decide) (by decide)
  have x59 : X' 59 = X 59 := hx 59 (by decide) (by decide) (by decide) (by decide) (by decide) (by decide)
  have x60 : X' 60 = X 60 := hx 60 (by decide) (by decide) (by decide) (by decide) (by decide) (by decide)
  have x61 : X' 61 = X 61 := hx 61 (by decide) (by decide) (by decide) (by decide) (by decide) (by decide)
  have x62 : X' 62 = X 62 := hx 62 (by decide) (by decide) (by decide) (by decide) (by decide) (by decide)
  have x68 : X' 68 = X 68 := hx 68 (by decide) (by decide) (by decide) (by decide) (by decide) (by decide)
  have s1 : X' 40 0 1 = X 40 0 1 := by rw [h40 1 (by decide), if_neg (by decide)]
  have s2 : X' 40 0 2 = X 40 0 2 := by rw [h40 2 (by decide), if_neg (by decide)]
  have s3 : X' 40 0 3 = X 40 0 3 := by rw [h40 3 (by decide), if_neg (by decide)]
  have s10 : X' 40 0 10 = X 40 0 10 := by rw [h40 10 (by decide), if_neg (by decide)]
  have s17 : X' 40 0 17 = X 40 0 17 := by rw [h40 17 (by decide), if_neg (by decide)]
  have s23 : X' 40 0 23 = (n : Int) + 1 := by rw [h40 23 (by decide), if_pos (by decide)]
  have a14 : ∀ c, c ≠ n → O' 14 c = O 14 c := fun c q => f1 14 c (fun z => q (by cases z; rfl)) (by omega) (by omega)
  have a15 : ∀ c, c ≠ n → O' 15 c = O 15 c := fun c q => f1 15 c (fun z => q (by cases z; rfl)) (by omega) (by omega)
  have b14 : O' 14 n = xR p1 p2 p3 14 n := f2 14 n rfl
  have b15 : ∀ m, O' 15 n m = 0 := fun m => by rw [f2 15 n rfl]; rfl
  unfold RM
  rw [enC, enS, enF, enR, k0, k3, k4, k5, k6, k7, k9, k11, k12, k13, k16, x44, x45, x46, x47, x48, x49, x51, x52, x53, x54, x55, x56, x58, x59, x60, x61, x62, x68, s1, s2, s3, s10, s17, s23]
  exact ⟨rm_day h, rm_term h, rm_nC h, rm_nS h, rm_nF h, (by omega), rm_crd h, rm_sea h, rm_res h, rm_res0 h, rm_req h, (fun c hc => by rw [w1 c]; exact rm_wN h c hc), rm_wN0 h, (fun c k hc hk => by rw [w1 c] at hk; rw [w2 c]; exact rm_wA h c k hc hk), rm_maj h, rm_tak h, rm_tak0 h, rm_mov h, rm_mov0 h, rm_tm h, rm_tm0 h, rm_tri h, rm_tri0 h, rm_trd h, rm_dep h, rm_f0 h, rm_f1 h, rm_f2 h, rm_f3 h, rm_f4 h, (fun r hr => by rw [h64, h65, h66]; by_cases q : r = n; (rw [if_pos q, if_pos q, if_pos q, q, b14]; exact ⟨rfl, rfl, rfl⟩); (rw [if_neg q, if_neg q, if_neg q, a14 r q]; exact rm_rul h r (by omega))), (fun r hr => by rw [h67]; by_cases q : r = n; (rw [if_pos q, q]; exact bitsE_z (fun c _ => b15 c)); (rw [if_neg q, a15 r q]; exact rm_alw h r (by omega))), rm_deg h, trivial⟩
theorem rm_mkF {O O' X X' : XM} {n : Nat} {y : Nat → Int} {k0 v1 v2 v3 v4 : Int} (hd : v4 = y 0) (hy0 : y 9 = 0 → k0 = 0 ∧ v1 = y 1 ∧ v2 = y 2) (hy1 : y 9 = 1 → k0 = 1 ∧ v1 = y 1) (hy2 : y 9 = 2 → k0 = 2 ∧ v1 = y 1) (hy3 : y 9 = 3 → v1 = y 2 ∧ v2 = y 3 ∧ k0 = (if y 4 = -1 then (if y 1 = 2 then 3 else 4) else 5) ∧ (y 4 ≠ -1 → v3 = y 4)) (hy4 : y 9 = 4 → k0 = 6 ∧ v1 = y 1) (h : RM O X) (hO : WO O) (hn : nF O = (n : Int)) (hP : MKX O (16, n) (fun _ _ => y) 2 O') (hx : ∀ k, 44 ≤ k → k ≤ 68 → k ≠ 58 → k ≠ 59 → k ≠ 60 → k ≠ 61 → k ≠ 62 → X' k = X k) (h40 : ∀ j, j ≠ 0 → X' 40 0 j = if j = 17 then (n : Int) + 1 else X 40 0 j) (h58 : ∀ j, X' 58 0 j = if j = n then k0 else X 58 0 j) (h59 : ∀ j, X' 59 0 j = if j = n then v1 else X 59 0 j) (h60 : ∀ j, X' 60 0 j = if j = n then v2 else X 60 0 j) (h61 : ∀ j, X' 61 0 j = if j = n then v3 else X 61 0 j) (h62 : ∀ j, X' 62 0 j = if j = n then v4 else X 62 0 j) : RM O' X' := by
  obtain ⟨f1, f2, f3⟩ := hP
  have g2 : ∀ j, gk 2 j ≠ (16, n) := fun j => gk_ne (by show (2 : Nat) ≠ 16; decide)
  have g1 : ∀ j, j < 4 → gk 1 j ≠ (16, n) := fun j hj => gk_ne (by rw [show gk 1 j = (0, 0) by simp [gk, hj]]; show (0 : Nat) ≠ 16; decide)
  have enC : nC O' = nC O := congrFun (f1 1 0 (g1 0 (by decide)) (by omega) (by omega)) 2
  have enS : nS O' = nS O := congrFun (f1 1 1 (g1 1 (by decide)) (by omega) (by omega)) 2
  have enR : nR O' = nR O := congrFun (f1 1 3 (g1 3 (by decide)) (by omega) (by omega)) 2
  have enF : nF O' = nF O + 1 := f3
  have k0 : O' 0 = O 0 := funext fun j => f1 0 j (gk_ne (by rw [show gk 0 j = (0, j) from rfl]; show (0 : Nat) ≠ 16; decide)) (by omega) (by omega)
  have k3 : O' 3 = O 3 := funext fun j => f1 3 j (gk_ne (by rw [show gk 3 j = (0, j) from rfl]; show (0 : Nat) ≠ 16; decide)) (by omega) (by omega)
  have k4 : O' 4 = O 4 := funext fun j => f1 4 j (gk_ne (by rw [show gk 4 j = (4, j) from rfl]; show (4 : Nat) ≠ 16; decide)) (by omega) (by omega)
  have k5 : O' 5 = O 5 := funext fun j => f1 5 j (gk_ne (by rw [show gk 5 j = (4, j) from rfl]; show (4 : Nat) ≠ 16; decide)) (by omega) (by omega)
  have k6 : O' 6 = O 6 := funext fun j => f1 6 j (gk_ne (by rw [show gk 6 j = (4, j) from rfl]; show (4 : Nat) ≠ 16; decide)) (by omega) (by omega)
  have k7 : O' 7 = O 7 := funext fun j => f1 7 j (gk_ne (by rw [show gk 7 j = (4, j) from rfl]; show (4 : Nat) ≠ 16; decide)) (by omega) (by omega)
  have k9 : O' 9 = O 9 := funext fun j => f1 9 j (gk_ne (by rw [show gk 9 j = (4, j) from rfl]; show (4 : Nat) ≠ 16; decide)) (by omega) (by omega)
  have k11 : O' 11 = O 11 := funext fun j => f1 11 j (gk_ne (by rw [show gk 11 j = (4, j / 20) from rfl]; show (4 : Nat) ≠ 16; decide)) (by omega) (by omega)
  have k12 : O' 12 = O 12 := funext fun j => f1 12 j (gk_ne (by rw [show gk 12 j = (12, j) from rfl]; show (12 : Nat) ≠ 16; decide)) (by omega) (by omega)
  have k13 : O' 13 = O 13 := funext fun j => f1 13 j (gk_ne (by rw [show gk 13 j = (12, j) from rfl]; show (12 : Nat) ≠ 16; decide)) (by omega) (by omega)
  have k14 : O' 14 = O 14 := funext fun j => f1 14 j (gk_ne (by rw [show gk 14 j = (14, j) from rfl]; show (14 : Nat) ≠ 16; decide)) (by omega) (by omega)
  have k15 : O' 15 = O 15 := funext fun j => f1 15 j (gk_ne (by rw [show gk 15 j = (14, j) from rfl]; show (14 : Nat) ≠ 16; decide)) (by omega) (by omega)
  have w1 : ∀ c, O' 1 (4 + c) = O 1 (4 + c) := fun c => f1 1 (4 + c) (gk_ne (gk_1x _ (a := 16))) (by omega) (by omega)
  have w2 : ∀ c, O' 2 (4 + c) = O 2 (4 + c) := fun c => f1 2 (4 + c) (g2 _) (by omega) (by omega)
  have x44 : X' 44 = X 44 := hx 44 (by decide) (by decide) (by decide) (by decide) (by decide) (by decide) (by decide)
  have x45 : X' 45 = X 45 := hx 45 (by decide) (by decide) (by decide) (by decide) (by decide) (by decide) (by decide)
  have x46 : X' 46 = X 46 := hx 46 (by decide) (by decide) (by decide) (by decide) (by decide) (by decide) (by decide)
  have x47 : X' 47 = X 47 := hx 47 (by decide) (by decide) (by decide) (by decide) (by decide) (by decide) (by decide)
  have x48 : X' 48 = X 48 := hx 48 (by decide) (by decide) (by decide) (by decide) (by decide) (by decide) (by decide)
  have x49 : X' 49 = X 49 := hx 49 (by decide) (by decide) (by decide) (by decide) (by decide) (by decide) (by decide)
  have x51 : X' 51 = X 51 := hx 51 (by decide) (by decide) (by decide) (by decide) (by decide) (by decide) (by decide)
  have x52 : X' 52 = X 52 := hx 52 (by decide) (by decide) (by decide) (by decide) (by decide) (by decide) (by decide)
  have x53 : X' 53 = X 53 := hx 53 (by decide) (by decide) (by decide) (by decide) (by decide) (by decide) (by decide)
  have x54 : X' 54 = X 54 := hx 54 (by decide) (by decide) (by decide) (by decide) (by decide) (by decide) (by decide)
  have x55 : X' 55 = X 55 := hx 55 (by decide) (by decide) (by decide) (by decide) (by decide) (by decide) (by decide)
  have x56 : X' 56 = X 56 := hx 56 (by decide) (by decide) (by decide) (by decide) (by decide) (by decide) (by decide)
  have x64 : X' 64 = X 64 := hx 64 (by decide) (by decide) (by decide) (by decide) (by decide) (by decide) (by decide)
  have x65 : X' 65 = X 65 := hx 65 (by decide) (by decide) (by decide) (by decide) (by decide) (by decide) (by decide)
  have x66 : X' 66 = X 66 := hx 66 (by decide) (by decide) (by decide) (by decide) (by decide) (by decide) (by decide)
  have x67 : X' 67 = X 67 := hx 67 (by decide) (by decide) (by decide) (by decide) (by decide) (by decide) (by decide)
  have x68 : X' 68 = X 68 := hx 68 (by decide) (by decide) (by decide) (by decide) (by decide) (by decide) (by decide)
  have s1 : X' 40 0 1 = X 40 0 1 := by rw [h40 1 (by decide), if_neg (by decide)]
  have s2 : X' 40 0 2 = X 40 0 2 := by rw [h40 2 (by decide), if_neg (by decide)]
  have s3 : X' 40 0 3 = X 40 0 3 := by rw [h40 3 (by decide), if_neg (by decide)]
  have s10 : X' 40 0 10 = X 40 0 10 := by rw [h40 10 (by decide), if_neg (by decide)]
  have s17 : X' 40 0 17 = (n : Int) + 1 := by rw [h40 17 (by decide), if_pos (by decide)]
  have s23 : X' 40 0 23 = X 40 0 23 := by rw [h40 23 (by decide), if_neg (by decide)]
  have a16 : ∀ c, c ≠ n → O' 16 c = O 16 c := fun c q => f1 16 c (fun z => q (gk_16 z).2) (by omega) (by omega)
  have b16 : O' 16 n = y := f2 16 n rfl
  unfold RM
  rw [enC, enS, enF, enR, k0, k3, k4, k5, k6, k7, k9, k11, k12, k13, k14, k15, x44, x45, x46, x47, x48, x49, x51, x52, x53, x54, x55, x56, x64, x65, x66, x67, x68, s1, s2, s3, s10, s17, s23]
  exact ⟨rm_day h, rm_term h, rm_nC h, rm_nS h, (by omega), rm_nR h, rm_crd h, rm_sea h, rm_res h, rm_res0 h, rm_req h, (fun c hc => by rw [w1 c]; exact rm_wN h c hc), rm_wN0 h, (fun c k hc hk => by rw [w1 c] at hk; rw [w2 c]; exact rm_wA h c k hc hk), rm_maj h, rm_tak h, rm_tak0 h, rm_mov h, rm_mov0 h, rm_tm h, rm_tm0 h, rm_tri h, rm_tri0 h, rm_trd h, (fun f hf => by rw [h62]; by_cases q : f = n; (rw [if_pos q, q, b16]; exact hd); (rw [if_neg q, a16 f q]; exact rm_dep h f (by omega))), (fun f hf z => by rw [h58, h59, h60]; by_cases q : f = n; (rw [q, b16] at z; rw [if_pos q, if_pos q, if_pos q, q, b16]; exact hy0 z); (rw [a16 f q] at z; rw [if_neg q, if_neg q, if_neg q, a16 f q]; exact rm_f0 h f (by omega) z)), (fun f hf z => by rw [h58, h59]; by_cases q : f = n; (rw [q, b16] at z; rw [if_pos q, if_pos q, q, b16]; exact hy1 z); (rw [a16 f q] at z; rw [if_neg q, if_neg q, a16 f q]; exact rm_f1 h f (by omega) z)), (fun f hf z => by rw [h58, h59]; by_cases q : f = n; (rw [q, b16] at z; rw [if_pos q, if_pos q, q, b16]; exact hy2 z); (rw [a16 f q] at z; rw [if_neg q, if_neg q, a16 f q]; exact rm_f2 h f (by omega) z)), (fun f hf z => by rw [h59, h60, h58, h61]; by_cases q : f = n; (rw [q, b16] at z; rw [if_pos q, if_pos q, if_pos q, if_pos q, q, b16]; exact hy3 z); (rw [a16 f q] at z; rw [if_neg q, if_neg q, if_neg q, if_neg q, a16 f q]; exact rm_f3 h f (by omega) z)), (fun f hf z => by rw [h58, h59]; by_cases q : f = n; (rw [q, b16] at z; rw [if_pos q, if_pos q, q, b16]; exact hy4 z); (rw [a16 f q] at z; rw [if_neg q, if_neg q, a16 f q]; exact rm_f4 h f (by omega) z)), rm_rul h, rm_alw h, rm_deg h, trivial⟩
theorem rm_wl {α α' : AL} {ν ν' : Nat → Nat → Bool} {O O' X X' : XM} {c e : Nat} (h : RM O X) (hO : WO O) (hc : (c : Int) < nC O) (hP : ADD α ν O (4 + c) e α' ν' O') (hx : ∀ k, 40 ≤ k → k ≤ 68 → k ≠ 48 → k ≠ 49 → X' k = X k) (h48 : ∀ j, X' 48 0 j = if j = c then X 48 0 c + 1 else X 48 0 j) (h49 : ∀ j : Nat, X' 49 0 j = if (j : Int) = 6 * (c : Int) + X 48 0 c then (e : Int) else X 49 0 j) (h6 : O 1 (4 + c) 2 < 6) : RM O' X' := by
  obtain ⟨-, -, f1, -, f2, -, f4, f5, -⟩ := hP
  have wc := rm_wN h c hc
  have wp := wo_wN hO c hc
  have enC : nC O' = nC O := congrFun (f1 1 0 (by omega) (by omega)) 2
  have enS : nS O' = nS O := congrFun (f1 1 1 (by omega) (by omega)) 2
  have enF : nF O' = nF O := congrFun (f1 1 2 (by omega) (by omega)) 2
  have enR : nR O' = nR O := congrFun (f1 1 3 (by omega) (by omega)) 2
  have k0 : O' 0 = O 0 := funext fun j => f1 0 j (by omega) (by omega)
  have k3 : O' 3 = O 3 := funext fun j => f1 3 j (by omega) (by omega)
  have k4 : O' 4 = O 4 := funext fun j => f1 4 j (by omega) (by omega)
  have k5 : O' 5 = O 5 := funext fun j => f1 5 j (by omega) (by omega)
  have k6 : O' 6 = O 6 := funext fun j => f1 6 j (by omega) (by omega)
  have k7 : O' 7 = O 7 := funext fun j => f1 7 j (by omega) (by omega)
  have k9 : O' 9 = O 9 := funext fun j => f1 9 j (by omega) (by omega)
  have k11 : O' 11 = O 11 := funext fun j => f1 11 j (by omega) (by omega)
  have k12 : O' 12 = O 12 := funext fun j => f1 12 j (by omega) (by omega)
  have k13 : O' 13 = O 13 := funext fun j => f1 13 j (by omega) (by omega)
  have k14 : O' 14 = O 14 := funext fun j => f1 14 j (by omega) (by omega)
  have k15 : O' 15 = O 15 := funext fun j => f1 15 j (by omega) (by omega)
  have k16 : O' 16 = O 16 := funext fun j => f1 16 j (by omega) (by omega)
  have x44 : X' 44 = X 44 := hx 44 (by decide) (by decide) (by decide) (by decide)
  have x45 : X' 45 = X 45 := hx 45 (by decide) (by decide) (by decide) (by decide)
  have x46 : X' 46 = X 46 := hx 46 (by decide) (by decide) (by decide) (by decide)
  have x47 : X' 47 = X 47 := hx 47 (by decide) (by decide) (by decide) (by decide)
  have x51 : X' 51 = X 51 := hx 51 (by decide) (by decide) (by decide) (by decide)
  have x52 : X' 52 = X 52 := hx 52 (by decide) (by decide) (by decide) (by decide)
  have x53 : X' 53 = X 53 := hx 53 (by decide) (by decide) (by decide) (by decide)
  have x54 : X' 54 = X 54 := hx 54 (by decide) (by decide) (by decide) (by decide)
  have x55 : X' 55 = X 55 := hx 55 (by decide) (by decide) (by decide) (by decide)
  have x56 : X' 56 = X 56 := hx 56 (by decide) (by decide) (by decide) (by decide)
  have x58 : X' 58 = X 58 := hx 58 (by decide) (by decide) (by decide) (by decide)
  have x59 : X' 59 = X 59 := hx 59 (by decide) (by decide) (by decide) (by decide)
  have x60 : X' 60 = X 60 := hx 60 (by decide) (by decide) (by decide) (by decide)
  have x61 : X' 61 = X 61 := hx 61 (by decide) (by decide) (by decide) (by decide)
  have x62 : X' 62 = X 62 := hx 62 (by decide) (by decide) (by decide) (by decide)
  have x64 : X' 64 = X 64 := hx 64 (by decide) (by decide) (by decide) (by decide)
  have x65 : X' 65 = X 65 := hx 65 (by decide) (by decide) (by decide) (by decide)
  have x66 : X' 66 = X 66 := hx 66 (by decide) (by decide) (by decide) (by decide)
  have x67 : X' 67 = X 67 := hx 67 (by decide) (by decide) (by decide) (by decide)
  have x68 : X' 68 = X 68 := hx 68 (by decide) (by decide) (by decide) (by decide)
  have x40 : X' 40 = X 40 := hx 40 (by decide) (by decide) (by decide) (by decide)
  have a1 : ∀ c2, c2 ≠ c → O' 1 (4 + c2) = O 1 (4 + c2) := fun c2 q => f1 1 (4 + c2) (by omega) (by omega)
  have a2 : ∀ c2, c2 ≠ c → O' 2 (4 + c2) = O 2 (4 + c2) := fun c2 q => f1 2 (4 + c2) (by omega) (by omega)
  unfold RM
  rw [enC, enS, enF, enR, k0, k3, k4, k5, k6, k7, k9, k11, k12, k13, k14, k15, k16, x44, x45, x46, x47, x51, x52, x53, x54, x55, x56, x58, x59, x60, x61, x62, x64, x65, x66, x67, x68, x40]
  exact ⟨rm_day h, rm_term h, rm_nC h, rm_nS h, rm_nF h, rm_nR h, rm_crd h, rm_sea h, rm_res h, rm_res0 h, rm_req h, (fun c2 hc2 => by rw [h48]; by_cases q : c2 = c; (rw [if_pos q, q, f2, wc]); (rw [if_neg q, a1 c2 q]; exact rm_wN h c2 hc2)), (fun c2 hc1 hc2 => by rw [h48, if_neg (by omega)]; exact rm_wN0 h c2 hc1 hc2), (fun c2 k hc2 hk => by rw [h49]; by_cases q : c2 = c; (subst q; rw [f2] at hk; by_cases z : (k : Int) < O 1 (4 + c2) 2; (rw [if_neg (by omega), f5 k z]; exact rm_wA h c2 k hc2 z); (rw [if_pos (by omega), show k = (O 1 (4 + c2) 2).toNat by omega, f4])); (have wp2 := wo_wN hO c2 hc2; rw [a1 c2 q] at hk; rw [if_neg (by omega), a2 c2 q]; exact rm_wA h c2 k hc2 hk)), rm_maj h, rm_tak h, rm_tak0 h, rm_mov h, rm_mov0 h, rm_tm h, rm_tm0 h, rm_tri h, rm_tri0 h, rm_trd h, rm_dep h, rm_f0 h, rm_f1 h, rm_f2 h, rm_f3 h, rm_f4 h, rm_rul h, rm_alw h, rm_deg h, trivial⟩
