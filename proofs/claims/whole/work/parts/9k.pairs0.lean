/-! A CALL BESIDE ITS REFERENCE -/
/-- what holds between two calls of the law, after k of them -/
def INV (k : Int) (ν : Nat → Nat → Bool) (X : XM) : Prop := WX ν X ∧ NV ν X ∧ RM X X ∧ FAR X ∧ X 0 0 6 ≤ k
/-- the law's references stand -/
def FIX (α α' : AL) : Prop := α' 0 0 = α 0 0 ∧ α' 40 0 = α 40 0 ∧ α' 90 0 = α 90 0 ∧ α' 91 0 = α 91 0
theorem FIX.rf (α : AL) : FIX α α := ⟨rfl, rfl, rfl, rfl⟩
/-- any answer; a truth -/
abbrev TZ : Int → Prop := fun _ => True
def BZ : Int → Prop := fun z => ∃ b, z = bi b
theorem bz_b (b : Bool) : BZ (bi b) := ⟨b, rfl⟩
def PAIR (g : Gt) (α : AL) (ν : Nat → Nat → Bool) (X : XM) (h : AH) (k : Int) (Tz : Int → Prop) (ML M12 : Mt) (as : List Value) : Prop := ∃ (r : Int) (mc ms : Nat) (P : AL → (Nat → Nat → Bool) → XM → Prop), (0 ≤ r ∧ r ≤ 8) ∧ mc ≤ 28 ∧ ms ≤ 287 ∧ Al g ML 29 (.ref (α 0 0) :: (as ++ [.ref (α 90 0)])) h mc ms (some (.int (J r))) P ∧ ∀ α' ν' X' h', TR g α' ν' X' h' → P α' ν' X' → FIX α α' ∧ ∃ (z2 : Int) (dm : Nat), R31 z2 ∧ (r = 0 → Tz z2) ∧ dm ≤ 28 ∧ Mu g α' ν' M12 dm (.ref (α' 40 0) :: as) h' (some (.int (J z2))) (fun X2 => X2 40 0 0 = r ∧ (r = 0 → X2 90 0 0 = z2) ∧ INV (k + 1) ν' X2)
section PR1
variable {g : Gt} {α : AL} {ν : Nat → Nat → Bool} {X : XM} {h : AH} {k : Int} {Tz : Int → Prop} {ML M12 : Mt} {as : List Value}
theorem mu_wk {α : AL} {ν : Nat → Nat → Bool} {M : Mt} {d : Nat} {av : List Value} {v : Option Value} {P P2 : XM → Prop} (c : Mu g α ν M d av h v P) (hP : ∀ x, P x → P2 x) : Mu g α ν M d av h v P2 := ct_weaken c (fun r h' hq => by obtain ⟨e, X', e2, e3⟩ := hq; exact ⟨e, X', e2, hP _ e3⟩)
theorem rm_out {O X : XM} (h : RM O X) {k i j : Nat} {v : Int} (hk : k < 40 ∨ 68 < k) : RM O (xs X k i j v) := rm_cg h (fun k' h1 h2 => xs_nk (by omega)) (fun j' _ => by rw [xs_nk (by omega)])
theorem rm_k {O X X' : XM} (h : RM O X) (hk : ∀ kk, 31 ≤ kk → X' kk = X kk) : RM O X' := rm_cg h (fun k' h1 h2 => hk k' (by omega)) (fun j' _ => by rw [hk 40 (by decide)])
theorem inv_of {n : Nat → Nat → Bool} {x X2 : XM} {k : Int} (hW : WX n x) (hV : NV n x) (hF : FAR x) (hk : x 0 0 6 ≤ k) (hM : RM x X2) (he : ∀ kk, kk < 17 → X2 kk = x kk) : INV k n X2 :=
  ⟨wx_cg hW he, nv_kp hV (KP.same (he 1 (by decide)) (he 2 (by decide))), rmO_cg hM he, fun c hc => by rw [he 5 (by decide)]; exact hF c hc, by rw [he 0 (by decide)]; exact hk⟩
/-- a failing call -/
theorem pair_no {dm : Nat} {r z2 : Int} {Pm : XM → Prop} (hT : TR g α ν X h) (hI : INV k ν X) (hr : 1 ≤ r ∧ r ≤ 8) (hz : R31 z2) (hw : Al g ML 29 (.ref (α 0 0) :: (as ++ [.ref (α 90 0)])) h 1 6 (some (.int (J r))) (fun a n x => a = α ∧ n = ν ∧ Pm x)) (hP : ∀ x, Pm x → ∀ kk, (kk < 17 ∨ 30 < kk) → x kk = X kk) (hc : ∀ X1 h1, TR g α ν X1 h1 → RM X X1 → Mu g α ν M12 dm (.ref (α 40 0) :: as) h1 (some (.int (J z2))) (fun X2 => RM X X2 ∧ CZ X1 X2 r)) (hdm : dm ≤ 28 := by decide) : PAIR g α ν X h k Tz ML M12 as := by
  refine ⟨r, 1, 6, _, ⟨by omega, hr.2⟩, by decide, by decide, hw, fun α' ν' X' h' hT' hp => ?_⟩
  obtain ⟨rfl, rfl, hp⟩ := hp
  obtain ⟨hW, hV, hM, hF, hK⟩ := hI
  have e := hP X' hp
  refine ⟨FIX.rf _, z2, dm, hz, fun q => absurd q (by omega), hdm, mu_wk (hc X' h' hT' (rm_k hM (fun kk q => e kk (by omega)))) (fun X2 hq => ⟨hq.2.2, fun q => absurd q (by omega), ?_⟩)⟩
  exact inv_of hW hV hF (by omega) hq.1 (fun kk q => (hq.2.1 kk (by omega)).trans (e kk (by omega)))
/-- a call that changes the office -/
theorem pair_ch {dm : Nat} {z : Int} {mc ms : Nat} {P : AL → (Nat → Nat → Bool) → XM → Prop} (hT : TR g α ν X h) (hI : INV k ν X) (hz : R31 z) (h1 : mc ≤ 28) (h2 : ms ≤ 287) (hw : Al g ML 29 (.ref (α 0 0) :: (as ++ [.ref (α 90 0)])) h mc ms (some (.int (J 0))) (fun a n x => ∃ x0, P a n x0 ∧ x = xs x0 90 0 0 z)) (hP : ∀ a n x, P a n x → FIX α a ∧ WX n x ∧ NV n x ∧ (∀ kk, 31 ≤ kk → x kk = X kk) ∧ FAR x ∧ x 0 0 6 ≤ k + 1 ∧ ∀ X1 h1, TR g a n X1 h1 → RM X X1 → Mu g a n M12 dm (.ref (a 40 0) :: as) h1 (some (.int (J z))) (fun X2 => RM x X2 ∧ CZ X1 X2 0)) (hdm : dm ≤ 28 := by decide) (htz : Tz z := by first | exact True.intro | exact bz_b _) : PAIR g α ν X h k Tz ML M12 as := by
  refine ⟨0, mc, ms, _, ⟨by decide, by decide⟩, h1, h2, hw, fun α' ν' X' h' hT' hp => ?_⟩
  obtain ⟨x0, hp, rfl⟩ := hp
  obtain ⟨hf, hW, hV, hk, hF, hK, hc⟩ := hP _ _ _ hp
  refine ⟨hf, z, dm, hz, fun _ => htz, hdm, mu_wk (hc _ h' hT' (rm_out (rm_k hI.2.2.1 hk) (Or.inr (by decide)))) (fun X2 hq => ⟨hq.2.2, fun _ => ?_, ?_⟩)⟩
  · rw [hq.2.1 90 (by decide), xs_at, if_pos rfl]
  · exact inv_of hW hV hF hK hq.1 (fun kk q => by rw [hq.2.1 kk (by omega), xs_nk (by omega)])
/-- a call that only asks -/
theorem pair_as {dm : Nat} {z : Int} {Pm : XM → Prop} (hT : TR g α ν X h) (hI : INV k ν X) (hz : R31 z) (hw : Al g ML 29 (.ref (α 0 0) :: (as ++ [.ref (α 90 0)])) h 0 0 (some (.int (J 0))) (fun a n x => ∃ x0, (a = α ∧ n = ν ∧ Pm x0) ∧ x = xs x0 90 0 0 z)) (hP : ∀ x, Pm x → ∀ kk, (kk < 17 ∨ 30 < kk) → x kk = X kk) (hc : ∀ X1 h1, TR g α ν X1 h1 → RM X X1 → Mu g α ν M12 dm (.ref (α 40 0) :: as) h1 (some (.int (J z))) (fun X2 => RM X X2 ∧ CZ X1 X2 0)) (hdm : dm ≤ 28 := by decide) (htz : Tz z := by first | exact True.intro | exact bz_b _) : PAIR g α ν X h k Tz ML M12 as := by
  refine pair_ch hT hI hz (by decide) (by decide) hw (fun a n x hp => ?_) hdm htz
  obtain ⟨rfl, rfl, hp⟩ := hp
  obtain ⟨hW, hV, hM, hF, hK⟩ := hI
  have e := hP x hp
  have he : ∀ kk, kk < 17 → x kk = X kk := fun kk q => e kk (by omega)
  refine ⟨FIX.rf _, wx_cg hW he, nv_kp hV (KP.same (he 1 (by decide)) (he 2 (by decide))), fun kk q => e kk (by omega), fun c hc => by rw [he 5 (by decide)]; exact hF c hc, by rw [he 0 (by decide)]; omega, fun X1 h1 hT1 hM1 => mu_wk (hc X1 h1 hT1 hM1) (fun X2 hq => ⟨rmO_cg hq.1 he, hq.2⟩)⟩
/-- a call that changes one thing by the same step on both sides -/
theorem pair_op {dm : Nat} {z : Int} {x : XM} (hT : TR g α ν X h) (hI : INV k ν X) (hz : R31 z) (hw : Al g ML 29 (.ref (α 0 0) :: (as ++ [.ref (α 90 0)])) h 0 0 (some (.int (J 0))) (fun a n y => ∃ x0, (a = α ∧ n = ν ∧ (x0 = x ∧ WX ν x0)) ∧ y = xs x0 90 0 0 z)) (hK : KQ X x) (hc : ∀ X1 h1, TR g α ν X1 h1 → RM X X1 → Mu g α ν M12 dm (.ref (α 40 0) :: as) h1 (some (.int (J z))) (fun X2 => RM x X2 ∧ CZ X1 X2 0)) (hdm : dm ≤ 28 := by decide) (htz : Tz z := by first | exact True.intro | exact bz_b _) : PAIR g α ν X h k Tz ML M12 as := by
  refine pair_ch hT hI hz (by decide) (by decide) hw (fun a n y hp => ?_) hdm htz
  obtain ⟨rfl, rfl, rfl, hw2⟩ := hp
  exact ⟨FIX.rf _, hw2, nv_kp hI.2.1 hK.1, hK.2.1, fun c hc => by rw [hK.2.2.1]; exact hI.2.2.2.1 c hc, by rw [hK.2.2.2]; have := hI.2.2.2.2; omega, hc⟩
/-- the forms of the reference's ends -/
theorem e_x {O X1 : XM} {r : Int} (hM : RM O X1) : ∀ x, x = xs X1 40 0 0 r → RM O x ∧ CZ X1 x r := fun x e => by rw [e]; exact ⟨rm_th hM r, CZ.go X1 r⟩
theorem e_w {O X1 : XM} {r v : Int} {j : Nat} (hj : j = 29 ∨ j = 30) (hM : RM O X1) : ∀ x, x = xs (xs X1 40 0 0 r) 40 0 j v → RM O x ∧ CZ X1 x r := fun x e => by
  rw [e]
  exact ⟨rm_cg (rm_th hM r) (fun k' h1 h2 => xs_nk (by omega)) (fun j' q => by rw [xs_at, if_neg (by omega)]), (CZ.go X1 r).x4 (by omega)⟩
theorem e_z {O X1 : XM} {r : Int} (hM : RM O X1) : ∀ x, (∃ z, x = xs (xs X1 40 0 29 z) 40 0 0 r) → RM O x ∧ CZ X1 x r := fun x e => by
  obtain ⟨z, rfl⟩ := e
  exact ⟨rm_th (rm_cg hM (fun k' h1 h2 => xs_nk (by omega)) (fun j' q => by rw [xs_at, if_neg (by omega)])) r, CZ.at (CM.xs _ (by decide)) r⟩
end PR1
