/-! THE FIRST MEMORY IS WELL FORMED -/
theorem x0_n {k i j : Nat} (h : ¬ (k = 7 ∧ i = 16 ∧ j < 20 ∨ k = 8 ∧ i = 16 ∧ j < 20 ∨ k = 45 ∧ j < 5)) : X0 k i j = 0 := if_neg h
theorem x0_c : nC X0 = 0 := rfl
theorem x0_s : nS X0 = 0 := rfl
theorem x0_f : nF X0 = 0 := rfl
theorem x0_r : nR X0 = 0 := rfl
set_option maxHeartbeats 4000000 in
theorem wo_0 : WO X0 := by
  unfold WO
  rw [x0_c, x0_s, x0_f, x0_r]
  refine ⟨⟨by decide, by decide⟩, ⟨by decide, by decide⟩, ⟨by decide, by decide⟩, ⟨by decide, by decide⟩, ⟨by decide, by decide⟩, ⟨by decide, by decide⟩, ?_⟩
  have z0 : ∀ n : Nat, ¬ ((n : Int) < 0) := fun n => by omega
  refine ⟨fun c h => absurd h (z0 c), fun c h => absurd h (z0 c), fun c h => absurd h (z0 c), fun c m h => absurd h (z0 c), fun c h => absurd h (z0 c), fun c k h => absurd h (z0 c), fun c h => absurd h (z0 c), fun s c h => Or.inl (x0_n (by omega)), fun s c h => Or.inl (x0_n (by omega)), fun c k h => absurd h (z0 c), fun c k h => absurd h (z0 c), fun c k h => absurd h (z0 c), fun c k m h => absurd h (z0 c), fun c k h => absurd h (z0 c), fun c k h => absurd h (z0 c), ?_⟩
  refine ⟨fun c h => absurd h (z0 c), fun f => by rw [x0_n (by omega)]; decide, fun c h => absurd h (z0 c), fun c h => absurd h (z0 c), fun c h => absurd h (z0 c), fun c h => absurd h (z0 c), fun c h => absurd h (z0 c), fun c h => absurd h (z0 c), fun c h => absurd h (z0 c), fun r c => Or.inl (x0_n (by omega)), fun m => (by show (0 : Int) ≤ 4; decide), fun c k h => absurd h (z0 c), fun c h => absurd h (z0 c), fun c k h => absurd h (z0 c), fun m h => by rw [x0_n (by omega)]; decide, fun c k h => absurd h (z0 c), trivial⟩
theorem wv_0 : WV nu0 X0 := by
  unfold WV
  rw [x0_c, x0_s, x0_f, x0_r]
  have z0 : ∀ n : Nat, ¬ ((n : Int) < 0) := fun n => by omega
  refine ⟨fun c h => absurd h (z0 c), rfl, fun c h => absurd h (z0 c), fun c h => absurd h (z0 c), fun c h => absurd h (z0 c), fun i hi h => absurd (x0_n (by omega)) h, fun i hi h => x0_n (by omega), fun i j hi h => ?_, fun c h => absurd h (z0 c), fun c h => absurd h (z0 c), fun i => by rw [x0_n (by omega)]; decide, trivial⟩
  rw [x0_n (by omega)] at h
  omega
theorem wx_0 : WX nu0 X0 := ⟨wo_0, wv_0⟩
theorem far_0 (c : Nat) : X0 5 16 c = 0 := x0_n (by omega)
