/-! THE FIRST MEMORY -/
def Z0 (g : Gt) (A r B : Nat → Nat) (q0 q1 : Nat) : List (Nat × AC) := (q0, .inr (13, [.ref (A 1), .ref (A 2), .ref (A 3), .ref (A 4), .ref (A 5), .int 0, .int 0, .ref (A 6), .ref (A 14), .ref (A 24), .ref (A 26), .ref (A 27)])) :: ((A 1), .inr (2, [.int (J (0)), .ref (gE g), .int 0])) :: ((A 2), .inr (2, [.int (J (0)), .ref (gE g), .int 0])) :: ((A 3), .inr (2, [.int (J (0)), .ref (gE g), .int 0])) :: ((A 4), .inr (2, [.int (J (0)), .ref (gE g), .int 0])) :: ((A 5), zi 4) :: ((A 6), .inr (10, [.int (J (0)), .ref (A 7), .ref (A 8), .ref (A 9), .ref (A 10), .ref (A 11), .ref (A 12)])) :: ((A 7), zz 20) :: ((A 8), zz 20) :: ((A 9), fi 20 (-1)) :: ((A 10), fi 20 (-1)) :: ((A 11), zi 20) :: ((A 12), rowsC 20 r) :: (r 0, zi 3) :: (r 1, zi 3) :: (r 2, zi 3) :: (r 3, zi 3) :: (r 4, zi 3) :: (r 5, zi 3) :: (r 6, zi 3) :: (r 7, zi 3) :: (r 8, zi 3) :: (r 9, zi 3) :: (r 10, zi 3) :: (r 11, zi 3) :: (r 12, zi 3) :: (r 13, zi 3) :: (r 14, zi 3) :: (r 15, zi 3) :: (r 16, zi 3) :: (r 17, zi 3) :: (r 18, zi 3) :: (r 19, zi 3) :: ((A 14), .inr (3, [.int 0, .ref (A 15), .ref (A 16), .ref (A 17), .ref (A 18), .ref (A 19), .ref (A 20), .ref (A 21), .ref (A 22), .ref (A 23)])) :: ((A 15), zi 4) :: ((A 16), zi 4) :: ((A 17), zi 20) :: ((A 18), zi 4) :: ((A 19), zi 4) :: ((A 20), zi 20) :: ((A 21), zi 4) :: ((A 22), zi 4) :: ((A 23), zz 256) :: ((A 24), .inr (12, [.ref (A 25), .int 0])) :: ((A 25), zc 340) :: ((A 26), zz 20) :: ((A 27), zi 6) :: (q1, .inr (14, [.ref (B 1), .ref (B 2), .ref (B 3), .ref (B 4), .ref (B 5), .ref (B 6), .ref (B 7), .ref (B 8), .ref (B 9)])) :: ((B 1), zi 12) :: ((B 2), zi 12) :: ((B 3), zi 12) :: ((B 4), zi 12) :: ((B 5), fi 5 (-1)) :: ((B 6), zi 5) :: ((B 7), zi 5) :: ((B 8), zi 20) :: ((B 9), zi 5) :: []
def tb0 : List Nat := 0 :: 0 :: 0 :: 5 :: 6 :: 7 :: 8 :: 9 :: 10 :: 11 :: 12 :: 0 :: 0 :: 0 :: 0 :: 0 :: 0 :: 33 :: 34 :: 35 :: 36 :: 37 :: 38 :: 39 :: 40 :: 41 :: 42 :: 43 :: 44 :: 45 :: 46 :: 0 :: 0 :: 0 :: 0 :: 0 :: 0 :: 0 :: 0 :: 0 :: 47 :: 48 :: 49 :: 50 :: 51 :: 52 :: 53 :: 54 :: 55 :: 56 :: 0 :: []
def idx0 (k i : Nat) : Nat := if k = 1 then 1 + i else if k = 11 then i - 307 else tb0.getD k 0
def nu0 (a b : Nat) : Bool := decide (a = 0 ∧ b = 0 ∨ a = 4 ∧ b = 16)
def X0 : XM := fun k i j => if k = 7 ∧ i = 16 ∧ j < 20 ∨ k = 8 ∧ i = 16 ∧ j < 20 ∨ k = 45 ∧ j < 5 then -1 else 0
theorem nu0_0 {k i : Nat} (hv : vk nu0 k i = true) : gk k i = (0, 0) ∨ gk k i = (4, 16) := by
  have := vk_nu hv
  simp only [nu0, decide_eq_true_eq] at this
  rcases this with z | z
  · exact Or.inl (Prod.ext z.1 z.2)
  · exact Or.inr (Prod.ext z.1 z.2)
theorem zi_x {n : Nat} {x : Nat → Int} (hx : ∀ j, x j = 0) : zi n = ints n x := congrArg (fun f => (Sum.inl (0, n, Sum.inl f) : AC)) (funext fun j => by rw [hx j]; exact J_0.symm)
theorem zz_x {n : Nat} {x : Nat → Int} (hx : ∀ j, x j = 0) : zz n = bools n x := congrArg (fun f => (Sum.inl (1, n, Sum.inl f) : AC)) (funext fun j => by rw [hx j]; exact J_0.symm)
theorem zc_x {n : Nat} {x : Nat → Int} (hx : ∀ j, x j = 0) : zc n = chars n x := congrArg (fun f => (Sum.inl (2, n, Sum.inl f) : AC)) (funext fun j => by rw [hx j]; exact J_0.symm)
theorem fi_x {n : Nat} {v : Int} {x : Nat → Int} (hx : ∀ j, x j = if j < n then v else 0) : fi n v = ints n x := congrArg (fun f => (Sum.inl (0, n, Sum.inl f) : AC)) (funext fun j => by
  rw [hx j]
  by_cases e : j < n
  · rw [if_pos e, if_pos e]
  · rw [if_neg e, if_neg e]; exact J_0.symm)
theorem gk_0 {k i : Nat} (hk : kOk k = true) (hv : vk nu0 k i = true) : (k = 1 ∧ i < 4) ∨ (4 ≤ k ∧ k ≤ 10 ∧ i = 16) ∨ (k = 11 ∧ 320 ≤ i ∧ i < 340) ∨ (k ≠ 1 ∧ ¬ (4 ≤ k ∧ k ≤ 11) ∧ k ≠ 2 ∧ ¬ (12 ≤ k ∧ k ≤ 16) ∧ k ≠ 50 ∧ i = 0) := by
  have h1 := nu0_0 hv
  have h2 : gk k i = (4, i / 20) → i < 340 := fun e => by
    simp only [vk, e, Bool.and_eq_true] at hv
    simpa using hv.2
  unfold gk at h1 h2
  by_cases a1 : k = 2
  · simp [a1] at h1
  · rw [if_neg a1] at h1 h2
    by_cases a2 : k = 11
    · rw [if_pos a2] at h1 h2
      simp at h1
      have := h2 rfl
      omega
    · rw [if_neg a2] at h1 h2
      by_cases a3 : 4 ≤ k ∧ k ≤ 10
      · rw [if_pos a3] at h1
        simp at h1
        omega
      · rw [if_neg a3] at h1
        by_cases a4 : k = 12 ∨ k = 13
        · rw [if_pos a4] at h1
          simp at h1
        · rw [if_neg a4] at h1
          by_cases a5 : k = 1
          · rw [if_pos a5] at h1
            by_cases a6 : i < 4
            · exact Or.inl ⟨a5, a6⟩
            · rw [if_neg a6] at h1
              simp at h1
          · rw [if_neg a5] at h1
            by_cases a6 : k = 14 ∨ k = 15
            · rw [if_pos a6] at h1
              simp at h1
            · rw [if_neg a6] at h1
              by_cases a7 : k = 16
              · rw [if_pos a7] at h1
                simp at h1
              · rw [if_neg a7] at h1
                by_cases a8 : k = 50
                · rw [if_pos a8] at h1
                  simp at h1
                · rw [if_neg a8] at h1
                  simp at h1
                  exact Or.inr (Or.inr (Or.inr ⟨a5, by omega, a1, by omega, a8, h1⟩))
section AL6
variable {g : Gt} {A r B : Nat → Nat} {q0 q1 : Nat}
set_option maxRecDepth 100000 in
theorem rc_x : rowsC 20 r = cellK g (alF (Z0 g A r B q0 q1) idx0) 10 16 (X0 10 16) := by
  refine congrArg (fun f => (Sum.inl (4, 20, .inr (.inr (.inr (.inr f)))) : AC)) (funext fun j => ?_)
  by_cases e : j < 20
  · rw [if_pos e, if_pos e]
    refine congrArg some ?_
    rcases j with _ | j
    · rfl
    rcases j with _ | j
    · rfl
    rcases j with _ | j
    · rfl
    rcases j with _ | j
    · rfl
    rcases j with _ | j
    · rfl
    rcases j with _ | j
    · rfl
    rcases j with _ | j
    · rfl
    rcases j with _ | j
    · rfl
    rcases j with _ | j
    · rfl
    rcases j with _ | j
    · rfl
    rcases j with _ | j
    · rfl
    rcases j with _ | j
    · rfl
    rcases j with _ | j
    · rfl
    rcases j with _ | j
    · rfl
    rcases j with _ | j
    · rfl
    rcases j with _ | j
    · rfl
    rcases j with _ | j
    · rfl
    rcases j with _ | j
    · rfl
    rcases j with _ | j
    · rfl
    rcases j with _ | j
    · rfl
    omega
  · rw [if_neg e, if_neg e]
set_option maxRecDepth 100000 in
set_option maxHeartbeats 4000000 in
theorem z0_rows (j : Nat) (hj : j < 20) : ∃ a, (Z0 g A r B q0 q1)[idx0 11 (320 + j)]? = some (a, cellK g (alF (Z0 g A r B q0 q1) idx0) 11 (320 + j) (X0 11 (320 + j))) := by
  have e : zi 3 = cellK g (alF (Z0 g A r B q0 q1) idx0) 11 (320 + j) (X0 11 (320 + j)) := zi_x (fun j => by simp [X0])
  rw [← e]
  rcases j with _ | j
  · exact ⟨_, rfl⟩
  rcases j with _ | j
  · exact ⟨_, rfl⟩
  rcases j with _ | j
  · exact ⟨_, rfl⟩
  rcases j with _ | j
  · exact ⟨_, rfl⟩
  rcases j with _ | j
  · exact ⟨_, rfl⟩
  rcases j with _ | j
  · exact ⟨_, rfl⟩
  rcases j with _ | j
  · exact ⟨_, rfl⟩
  rcases j with _ | j
  · exact ⟨_, rfl⟩
  rcases j with _ | j
  · exact ⟨_, rfl⟩
  rcases j with _ | j
  · exact ⟨_, rfl⟩
  rcases j with _ | j
  · exact ⟨_, rfl⟩
  rcases j with _ | j
  · exact ⟨_, rfl⟩
  rcases j with _ | j
  · exact ⟨_, rfl⟩
  rcases j with _ | j
  · exact ⟨_, rfl⟩
  rcases j with _ | j
  · exact ⟨_, rfl⟩
  rcases j with _ | j
  · exact ⟨_, rfl⟩
  rcases j with _ | j
  · exact ⟨_, rfl⟩
  rcases j with _ | j
  · exact ⟨_, rfl⟩
  rcases j with _ | j
  · exact ⟨_, rfl⟩
  rcases j with _ | j
  · exact ⟨_, rfl⟩
  omega
set_option maxRecDepth 100000 in
set_option maxHeartbeats 4000000 in
theorem z0_cell : ∀ k i, vk nu0 k i = true → ∃ a, (Z0 g A r B q0 q1)[idx0 k i]? = some (a, cellK g (alF (Z0 g A r B q0 q1) idx0) k i (X0 k i)) := by
  intro k i hv
  have hk := vk_ok hv
  have h92 : k < 51 := by
    simp [kOk] at hk
    omega
  rcases gk_0 hk hv with ⟨rfl, hi⟩ | ⟨h1, h2, rfl⟩ | ⟨rfl, h1, h2⟩ | ⟨h1, h2, h3, h4, h5, rfl⟩
  · rcases (show i = 0 ∨ i = 1 ∨ i = 2 ∨ i = 3 by omega) with rfl | rfl | rfl | rfl
    · exact ⟨_, congrArg some (Prod.ext rfl rfl)⟩
    · exact ⟨_, congrArg some (Prod.ext rfl rfl)⟩
    · exact ⟨_, congrArg some (Prod.ext rfl rfl)⟩
    · exact ⟨_, congrArg some (Prod.ext rfl rfl)⟩
  · rcases (show k = 4 ∨ k = 5 ∨ k = 6 ∨ k = 7 ∨ k = 8 ∨ k = 9 ∨ k = 10 by omega) with rfl | rfl | rfl | rfl | rfl | rfl | rfl
    · exact ⟨_, congrArg some (Prod.ext rfl (rfl))⟩
    · exact ⟨_, congrArg some (Prod.ext rfl (zz_x (fun j => by simp [X0])))⟩
    · exact ⟨_, congrArg some (Prod.ext rfl (zz_x (fun j => by simp [X0])))⟩
    · exact ⟨_, congrArg some (Prod.ext rfl (fi_x (fun j => by simp [X0])))⟩
    · exact ⟨_, congrArg some (Prod.ext rfl (fi_x (fun j => by simp [X0])))⟩
    · exact ⟨_, congrArg some (Prod.ext rfl (zi_x (fun j => by simp [X0])))⟩
    · exact ⟨_, congrArg some (Prod.ext rfl (rc_x))⟩
  · obtain ⟨j, rfl⟩ : ∃ j, i = 320 + j := ⟨i - 320, by omega⟩
    exact z0_rows j (by omega)
  · clear hv h92
    rcases k with _ | k
    · exact ⟨_, congrArg some (Prod.ext rfl (rfl))⟩
    rcases k with _ | k
    · omega
    rcases k with _ | k
    · omega
    rcases k with _ | k
    · exact ⟨_, congrArg some (Prod.ext rfl (zi_x (fun j => by simp [X0])))⟩
    rcases k with _ | k
    · omega
    rcases k with _ | k
    · omega
    rcases k with _ | k
    · omega
    rcases k with _ | k
    · omega
    rcases k with _ | k
    · omega
    rcases k with _ | k
    · omega
    rcases k with _ | k
    · omega
    rcases k with _ | k
    · omega
    rcases k with _ | k
    · omega
    rcases k with _ | k
    · omega
    rcases k with _ | k
    · omega
    rcases k with _ | k
    · omega
    rcases k with _ | k
    · omega
    rcases k with _ | k
    · exact ⟨_, congrArg some (Prod.ext rfl (rfl))⟩
    rcases k with _ | k
    · exact ⟨_, congrArg some (Prod.ext rfl (zi_x (fun j => by simp [X0])))⟩
    rcases k with _ | k
    · exact ⟨_, congrArg some (Prod.ext rfl (zi_x (fun j => by simp [X0])))⟩
    rcases k with _ | k
    · exact ⟨_, congrArg some (Prod.ext rfl (zi_x (fun j => by simp [X0])))⟩
    rcases k with _ | k
    · exact ⟨_, congrArg some (Prod.ext rfl (zi_x (fun j => by simp [X0])))⟩
    rcases k with _ | k
    · exact ⟨_, congrArg some (Prod.ext rfl (zi_x (fun j => by simp [X0])))⟩
    rcases k with _ | k
    · exact ⟨_, congrArg some (Prod.ext rfl (zi_x (fun j => by simp [X0])))⟩
    rcases k with _ | k
    · exact ⟨_, congrArg some (Prod.ext rfl (zi_x (fun j => by simp [X0])))⟩
    rcases k with _ | k
    · exact ⟨_, congrArg some (Prod.ext rfl (zi_x (fun j => by simp [X0])))⟩
    rcases k with _ | k
    · exact ⟨_, congrArg some (Prod.ext rfl (zz_x (fun j => by simp [X0])))⟩
    rcases k with _ | k
    · exact ⟨_, congrArg some (Prod.ext rfl (rfl))⟩
    rcases k with _ | k
    · exact ⟨_, congrArg some (Prod.ext rfl (zc_x (fun j => by simp [X0])))⟩
    rcases k with _ | k
    · exact ⟨_, congrArg some (Prod.ext rfl (zz_x (fun j => by simp [X0])))⟩
    rcases k with _ | k
    · exact ⟨_, congrArg some (Prod.ext rfl (zi_x (fun j => by simp [X0])))⟩
    rcases k with _ | k
    · exact absurd hk (by decide)
    rcases k with _ | k
    · exact absurd hk (by decide)
    rcases k with _ | k
    · exact absurd hk (by decide)
    rcases k with _ | k
    · exact absurd hk (by decide)
    rcases k with _ | k
    · exact absurd hk (by decide)
    rcases k with _ | k
    · exact absurd hk (by decide)
    rcases k with _ | k
    · exact absurd hk (by decide)
    rcases k with _ | k
    · exact absurd hk (by decide)
    rcases k with _ | k
    · exact absurd hk (by decide)
    rcases k with _ | k
    · exact ⟨_, congrArg some (Prod.ext rfl (rfl))⟩
    rcases k with _ | k
    · exact ⟨_, congrArg some (Prod.ext rfl (zi_x (fun j => by simp [X0])))⟩
    rcases k with _ | k
    · exact ⟨_, congrArg some (Prod.ext rfl (zi_x (fun j => by simp [X0])))⟩
    rcases k with _ | k
    · exact ⟨_, congrArg some (Prod.ext rfl (zi_x (fun j => by simp [X0])))⟩
    rcases k with _ | k
    · exact ⟨_, congrArg some (Prod.ext rfl (zi_x (fun j => by simp [X0])))⟩
    rcases k with _ | k
    · exact ⟨_, congrArg some (Prod.ext rfl (fi_x (fun j => by simp [X0])))⟩
    rcases k with _ | k
    · exact ⟨_, congrArg some (Prod.ext rfl (zi_x (fun j => by simp [X0])))⟩
    rcases k with _ | k
    · exact ⟨_, congrArg some (Prod.ext rfl (zi_x (fun j => by simp [X0])))⟩
    rcases k with _ | k
    · exact ⟨_, congrArg some (Prod.ext rfl (zi_x (fun j => by simp [X0])))⟩
    rcases k with _ | k
    · exact ⟨_, congrArg some (Prod.ext rfl (zi_x (fun j => by simp [X0])))⟩
    rcases k with _ | k
    · omega
    exact absurd hk (by simp [kOk])
def ky0 : List (Nat × Nat) := (0, 0) :: (1, 0) :: (1, 1) :: (1, 2) :: (1, 3) :: (3, 0) :: (4, 16) :: (5, 16) :: (6, 16) :: (7, 16) :: (8, 16) :: (9, 16) :: (10, 16) :: (11, 320) :: (11, 321) :: (11, 322) :: (11, 323) :: (11, 324) :: (11, 325) :: (11, 326) :: (11, 327) :: (11, 328) :: (11, 329) :: (11, 330) :: (11, 331) :: (11, 332) :: (11, 333) :: (11, 334) :: (11, 335) :: (11, 336) :: (11, 337) :: (11, 338) :: (11, 339) :: (17, 0) :: (18, 0) :: (19, 0) :: (20, 0) :: (21, 0) :: (22, 0) :: (23, 0) :: (24, 0) :: (25, 0) :: (26, 0) :: (27, 0) :: (28, 0) :: (29, 0) :: (30, 0) :: (40, 0) :: (41, 0) :: (42, 0) :: (43, 0) :: (44, 0) :: (45, 0) :: (46, 0) :: (47, 0) :: (48, 0) :: (49, 0) :: []
set_option maxRecDepth 100000 in
set_option maxHeartbeats 4000000 in
theorem idx0_inv : ∀ k i, vk nu0 k i = true → ky0[idx0 k i]? = some (k, i) := by
  intro k i hv
  have hk := vk_ok hv
  have h92 : k < 51 := by
    simp [kOk] at hk
    omega
  rcases gk_0 hk hv with ⟨rfl, hi⟩ | ⟨h1, h2, rfl⟩ | ⟨rfl, h1, h2⟩ | ⟨h1, h2, h3, h4, h5, rfl⟩
  · rcases (show i = 0 ∨ i = 1 ∨ i = 2 ∨ i = 3 by omega) with rfl | rfl | rfl | rfl <;> rfl
  · rcases (show k = 4 ∨ k = 5 ∨ k = 6 ∨ k = 7 ∨ k = 8 ∨ k = 9 ∨ k = 10 by omega) with rfl | rfl | rfl | rfl | rfl | rfl | rfl <;> rfl
  · obtain ⟨j, rfl⟩ : ∃ j, i = 320 + j := ⟨i - 320, by omega⟩
    have hj : j < 20 := by omega
    clear hv h1 h2
    rcases j with _ | j
    · rfl
    rcases j with _ | j
    · rfl
    rcases j with _ | j
    · rfl
    rcases j with _ | j
    · rfl
    rcases j with _ | j
    · rfl
    rcases j with _ | j
    · rfl
    rcases j with _ | j
    · rfl
    rcases j with _ | j
    · rfl
    rcases j with _ | j
    · rfl
    rcases j with _ | j
    · rfl
    rcases j with _ | j
    · rfl
    rcases j with _ | j
    · rfl
    rcases j with _ | j
    · rfl
    rcases j with _ | j
    · rfl
    rcases j with _ | j
    · rfl
    rcases j with _ | j
    · rfl
    rcases j with _ | j
    · rfl
    rcases j with _ | j
    · rfl
    rcases j with _ | j
    · rfl
    rcases j with _ | j
    · rfl
    omega
  · clear hv h92
    rcases k with _ | k
    · rfl
    rcases k with _ | k
    · omega
    rcases k with _ | k
    · omega
    rcases k with _ | k
    · rfl
    rcases k with _ | k
    · omega
    rcases k with _ | k
    · omega
    rcases k with _ | k
    · omega
    rcases k with _ | k
    · omega
    rcases k with _ | k
    · omega
    rcases k with _ | k
    · omega
    rcases k with _ | k
    · omega
    rcases k with _ | k
    · omega
    rcases k with _ | k
    · omega
    rcases k with _ | k
    · omega
    rcases k with _ | k
    · omega
    rcases k with _ | k
    · omega
    rcases k with _ | k
    · omega
    rcases k with _ | k
    · rfl
    rcases k with _ | k
    · rfl
    rcases k with _ | k
    · rfl
    rcases k with _ | k
    · rfl
    rcases k with _ | k
    · rfl
    rcases k with _ | k
    · rfl
    rcases k with _ | k
    · rfl
    rcases k with _ | k
    · rfl
    rcases k with _ | k
    · rfl
    rcases k with _ | k
    · rfl
    rcases k with _ | k
    · rfl
    rcases k with _ | k
    · rfl
    rcases k with _ | k
    · rfl
    rcases k with _ | k
    · rfl
    rcases k with _ | k
    · exact absurd hk (by decide)
    rcases k with _ | k
    · exact absurd hk (by decide)
    rcases k with _ | k
    · exact absurd hk (by decide)
    rcases k with _ | k
    · exact absurd hk (by decide)
    rcases k with _ | k
    · exact absurd hk (by decide)
    rcases k with _ | k
    · exact absurd hk (by decide)
    rcases k with _ | k
    · exact absurd hk (by decide)
    rcases k with _ | k
    · exact absurd hk (by decide)
    rcases k with _ | k
    · exact absurd hk (by decide)
    rcases k with _ | k
    · rfl
    rcases k with _ | k
    · rfl
    rcases k with _ | k
    · rfl
    rcases k with _ | k
    · rfl
    rcases k with _ | k
    · rfl
    rcases k with _ | k
    · rfl
    rcases k with _ | k
    · rfl
    rcases k with _ | k
    · rfl
    rcases k with _ | k
    · rfl
    rcases k with _ | k
    · rfl
    rcases k with _ | k
    · omega
    exact absurd hk (by simp [kOk])
theorem tr_first {h h' : AH} (F : FR g h h' (Z0 g A r B q0 q1)) : TR g (alF (Z0 g A r B q0 q1) idx0) nu0 X0 h' :=
  TR.first F rfl z0_cell (fun k i k' i' hv hv' e => by
    have e1 := idx0_inv k i hv
    rw [e, idx0_inv k' i' hv'] at e1
    cases e1
    exact ⟨rfl, rfl⟩) (fun k i j _ => by
    unfold X0
    by_cases e : k = 7 ∧ i = 16 ∧ j < 20 ∨ k = 8 ∧ i = 16 ∧ j < 20 ∨ k = 45 ∧ j < 5
    · rw [if_pos e]; exact ⟨by decide, by decide⟩
    · rw [if_neg e]; exact ⟨by decide, by decide⟩)
theorem X0_0 {k i j : Nat} (h7 : k ≠ 7) (h8 : k ≠ 8) (h54 : k ≠ 45) : X0 k i j = 0 := if_neg (by omega)
theorem X0_s {k i j : Nat} (hi : i ≠ 16) (h54 : k ≠ 45) : X0 k i j = 0 := if_neg (by omega)
theorem clo_0 : CLO nu0 X0 := by
  refine ⟨rfl, rfl, fun s hs => ?_, fun i hv hn => absurd (X0_0 (by decide) (by decide) (by decide)) hn, fun i j hv hn => ?_⟩
  · simp only [nu0, decide_eq_true_eq] at hs
    omega
  · simp only [nu0, decide_eq_true_eq] at hv
    omega
end AL6
