/-! CALLS BESIDE THEIR REFERENCES: those that make, those that write and throw -/
theorem rm_nw {X Y Z : XM} {f : Nat → Int} (hO : WO X) (hY : NWC X f Y) (h : RM X Z) : RM Y Z := by
  have qs := wo_nS hO
  have k1 : Y 1 = X 1 := hY.1 1 (by decide) (by decide) (by decide)
  have k2 : Y 2 = X 2 := hY.1 2 (by decide) (by decide) (by decide)
  have k0 : Y 0 = X 0 := hY.1 0 (by decide) (by decide) (by decide)
  have k3 : Y 3 = X 3 := hY.1 3 (by decide) (by decide) (by decide)
  have k4 : Y 4 = X 4 := hY.1 4 (by decide) (by decide) (by decide)
  have k5 : Y 5 = X 5 := hY.1 5 (by decide) (by decide) (by decide)
  have k6 : Y 6 = X 6 := hY.1 6 (by decide) (by decide) (by decide)
  have k7 : Y 7 = X 7 := hY.1 7 (by decide) (by decide) (by decide)
  have k12 : Y 12 = X 12 := hY.1 12 (by decide) (by decide) (by decide)
  have k13 : Y 13 = X 13 := hY.1 13 (by decide) (by decide) (by decide)
  have k14 : Y 14 = X 14 := hY.1 14 (by decide) (by decide) (by decide)
  have k15 : Y 15 = X 15 := hY.1 15 (by decide) (by decide) (by decide)
  have k16 : Y 16 = X 16 := hY.1 16 (by decide) (by decide) (by decide)
  have k9 : ∀ s : Nat, (s : Int) < nS X → Y 9 s = X 9 s := fun s hs => hY.2.2.1 s (by omega)
  have k11 : ∀ s c : Nat, (s : Int) < nS X → c < 20 → Y 11 (20 * s + c) = X 11 (20 * s + c) := fun s c hs hc => hY.2.2.2.1 _ (by omega)
  unfold RM
  rw [show nC Y = nC X from by show Y 1 0 2 = X 1 0 2; rw [k1], show nS Y = nS X from by show Y 1 1 2 = X 1 1 2; rw [k1], show nF Y = nF X from by show Y 1 2 2 = X 1 2 2; rw [k1], show nR Y = nR X from by show Y 1 3 2 = X 1 3 2; rw [k1], k1, k2, k0, k3, k4, k5, k6, k7, k12, k13, k14, k15, k16]
  exact ⟨rm_day h, rm_term h, rm_nC h, rm_nS h, rm_nF h, rm_nR h, rm_crd h, rm_sea h, rm_res h, rm_res0 h, rm_req h, rm_wN h, rm_wN0 h, rm_wA h, rm_maj h, rm_tak h, rm_tak0 h, rm_mov h, rm_mov0 h, rm_tm h, rm_tm0 h, (fun s c hs hc => by rw [k9 s hs]; exact rm_tri h s c hs hc), rm_tri0 h, (fun s c k hs hc hk => by rw [k9 s hs] at hk; rw [k11 s c hs hc]; exact rm_trd h s c k hs hc hk), rm_dep h, rm_f0 h, rm_f1 h, rm_f2 h, rm_f3 h, rm_f4 h, rm_rul h, rm_alw h, rm_deg h, trivial⟩
section PR2
variable {g : Gt} {α : AL} {ν : Nat → Nat → Bool} {X : XM} {h : AH} {k : Int} {Tz : Int → Prop} {ML M12 : Mt} {as : List Value}
/-- a failing call that wrote -/
theorem pair_nc {dm : Nat} {r z2 : Int} {Pm : XM → Prop} (hT : TR g α ν X h) (hI : INV k ν X) (hr : 1 ≤ r ∧ r ≤ 8) (hz : R31 z2) (hw : Al g ML 29 (.ref (α 0 0) :: (as ++ [.ref (α 90 0)])) h 1 6 (some (.int (J r))) (fun a n x => a = α ∧ n = ν ∧ Pm x)) (hP : ∀ x, Pm x → WX ν x ∧ NV ν x ∧ (∀ kk, 31 ≤ kk → x kk = X kk) ∧ FAR x ∧ x 0 0 6 ≤ k + 1 ∧ ∀ X1 h1, TR g α ν X1 h1 → RM X X1 → Mu g α ν M12 dm (.ref (α 40 0) :: as) h1 (some (.int (J z2))) (fun X2 => RM x X2 ∧ CZ X1 X2 r)) (hdm : dm ≤ 28 := by decide) : PAIR g α ν X h k Tz ML M12 as := by
  refine ⟨r, 1, 6, _, ⟨by omega, hr.2⟩, by decide, by decide, hw, fun α' ν' X' h' hT' hp => ?_⟩
  obtain ⟨rfl, rfl, hp⟩ := hp
  obtain ⟨hW, hV, hk, hF, hK, hc⟩ := hP X' hp
  refine ⟨FIX.rf _, z2, dm, hz, fun q => absurd q (by omega), hdm, mu_wk (hc X' h' hT' (rm_k hI.2.2.1 hk)) (fun X2 hq => ⟨hq.2.2, fun q => absurd q (by omega), ?_⟩)⟩
  exact inv_of hW hV hF hK hq.1 (fun kk q => hq.2.1 kk (by omega))
theorem nw_keep {f : Nat → Int} {Y : XM} (hI : INV k ν X) (hY : NWC X f Y) : WX ν Y ∧ NV ν Y ∧ (∀ kk, 31 ≤ kk → Y kk = X kk) ∧ FAR Y ∧ Y 0 0 6 ≤ k + 1 := by
  have e : ∀ kk, kk ≠ 8 → kk ≠ 9 → kk ≠ 11 → Y kk = X kk := hY.1
  refine ⟨wx_nw hI.1 hY, nv_kp hI.2.1 (KP.same (e 1 (by decide) (by decide) (by decide)) (e 2 (by decide) (by decide) (by decide))), fun kk q => e kk (by omega) (by omega) (by omega), fun c hc => by rw [e 5 (by decide) (by decide) (by decide)]; exact hI.2.2.2.1 c hc, ?_⟩
  rw [e 0 (by decide) (by decide) (by decide)]
  have := hI.2.2.2.2
  omega
theorem gk_far {k i : Nat} (hk : 17 ≤ k) : gk k i = (0, i) := by
  unfold gk
  rw [if_neg (by omega), if_neg (by omega), if_neg (by omega), if_neg (by omega), if_neg (by omega), if_neg (by omega), if_neg (by omega)]
theorem mk_keep {G : Nat × Nat} {x X' : XM} {i : Nat} (hI : INV k ν X) (hX : MKX X G x i X') (hG : G.1 ≠ 0) (h4 : G ≠ (4, 16)) : (∀ kk, 31 ≤ kk → X' kk = X kk) ∧ FAR X' ∧ X' 0 0 6 ≤ k + 1 := by
  refine ⟨fun kk q => funext fun j => hX.1 kk j (fun z => hG (by rw [← z, gk_far (by omega)])) (by omega) (by omega), fun c hc => ?_, ?_⟩
  · rw [hX.1 5 16 (fun z => h4 (by rw [← z]; rfl)) (by omega) (by omega)]
    exact hI.2.2.2.1 c hc
  · rw [hX.1 0 0 (fun z => hG (by rw [← z]; rfl)) (by omega) (by omega)]
    have := hI.2.2.2.2
    omega
theorem mk_fix {G : Nat × Nat} {x X' : XM} {i e : Nat} {α' : AL} {ν' : Nat → Nat → Bool} (hP : MK α ν X G x i e α' ν' X') (hG : G.1 ≠ 0) : FIX α α' :=
  ⟨mk_a hP (fun z => hG (by rw [← z]; rfl)) (by omega), mk_a hP (fun z => hG (by rw [← z, gk_far (by decide)])) (by omega), mk_a hP (fun z => hG (by rw [← z, gk_far (by decide)])) (by omega), mk_a hP (fun z => hG (by rw [← z, gk_far (by decide)])) (by omega)⟩
theorem ctA_5 {X : XM} {i : Nat} : ∀ n, n ≤ i → ctA X n 5 i = X 5 i
  | 0, _ => rfl
  | n + 1, hn => by
    have h1 : ∀ m, ctS (ctA X n) n m 5 i = ctA X n 5 i := fun m => by
      induction m with
      | zero => rfl
      | succ m ih =>
        rw [ctS]
        unfold ctC
        rw [xs_nk (by decide), xs_ne (by omega)]
        split
        · rw [aa_k (by decide) (by decide) (by decide)]; exact ih
        · exact ih
    rw [ctA, h1]
    exact ctA_5 n (by omega)
end PR2
set_option maxHeartbeats 2000000 in
theorem pr_addCourse {g : Gt} {α : AL} {ν : Nat → Nat → Bool} {X : XM} {h : AH} {k : Int} (hT : TR g α ν X h) (hI : INV k ν X) {a0 : Int} (ha0 : R31 a0) {a1 : Int} (ha1 : R31 a1) : PAIR g α ν X h k TZ M_L_addCourse M_X12_addCourse [.int (J a0), .int (J a1)] := by
  have qc := wo_nC hI.1.1
  have qs := wo_nS hI.1.1
  have qf := wo_nF hI.1.1
  have qr := wo_nR hI.1.1
  have qd := wo_day hI.1.1
  by_cases hm0 : ¬ (1 ≤ a0 ∧ a0 ≤ 6) ∨ ¬ (1 ≤ a1 ∧ a1 ≤ 12)
  · skip
    exact pair_no hT hI ⟨by decide, by decide⟩ (z2 := _) (by first | exact R31_0 | exact bi_R _) (w_addCourse_x1 hT (c_X11_addCourse_x1 hT hI.1 (by first | assumption | omega | (constructor <;> omega)) (by first | assumption | omega | (constructor <;> omega)) hm0)) (fun x e kk _ => by rw [e]) (fun X1 h1 hT1 hM1 => mu_wk (c_X12_addCourse_x1 hT1 hI.1.1 hM1 (by first | assumption | omega | (constructor <;> omega)) (by first | assumption | omega | (constructor <;> omega)) hm0) (e_x hM1))
  · skip
    by_cases hm : nC X < 20
    · skip
      obtain ⟨n, hn⟩ : ∃ n : Nat, nC X = (n : Int) := ⟨(nC X).toNat, by omega⟩
      have hg : gk 1 0 ≠ (12, n) := gk_ne (by show (0 : Nat) ≠ 12; decide)
      refine pair_ch (dm := 27) hT hI (z := nC X) ⟨by omega, by omega⟩ (by decide) (by decide) (w_addCourse_ok hT ⟨by omega, by omega⟩ (fun a n2 y q => (mk_fix q (show (12 : Nat) ≠ 0 by decide)).2.2.1) (c_X11_addCourse_ok hT hI.1 hI.2.1 (by first | assumption | omega | (constructor <;> omega)) (by first | assumption | omega | (constructor <;> omega)) (by first | assumption | omega | (constructor <;> omega)) (by first | assumption | omega | (constructor <;> omega)) (by first | assumption | omega | (constructor <;> omega)) hn)) (fun a n2 y hp => ?_)
      have hX := mk_x hp (show (12 : Nat) ≠ 2 by decide) hg
      have hk3 := mk_keep hI hX (show (12 : Nat) ≠ 0 by decide) (fun z => by cases z)
      have hwx := wx_mkC (by omega) (by omega) hm hI.1 hI.2.1 hn hp
      exact ⟨mk_fix hp (show (12 : Nat) ≠ 0 by decide), hwx.1, hwx.2, hk3.1, hk3.2.1, hk3.2.2, fun X1 h1 hT1 hM1 => c_X12_addCourse_ok hT1 hI.1.1 hM1 (by first | assumption | omega | (constructor <;> omega)) (by first | assumption | omega | (constructor <;> omega)) (by first | assumption | omega | (constructor <;> omega)) (by first | assumption | omega | (constructor <;> omega)) (by first | assumption | omega | (constructor <;> omega)) hn hX⟩
    · skip
      exact pair_no hT hI ⟨by decide, by decide⟩ (z2 := _) (by first | exact R31_0 | exact bi_R _) (w_addCourse_x2 hT (c_X11_addCourse_x2 hT hI.1 (by first | assumption | omega | (constructor <;> omega)) (by first | assumption | omega | (constructor <;> omega)) (by first | assumption | omega | (constructor <;> omega)) (by first | assumption | omega | (constructor <;> omega)) (by first | assumption | omega | (constructor <;> omega)))) (fun x e kk _ => by rw [e]) (fun X1 h1 hT1 hM1 => mu_wk (c_X12_addCourse_x2 hT1 hI.1.1 hM1 (by first | assumption | omega | (constructor <;> omega)) (by first | assumption | omega | (constructor <;> omega)) (by first | assumption | omega | (constructor <;> omega)) (by first | assumption | omega | (constructor <;> omega)) (by first | assumption | omega | (constructor <;> omega))) (e_x hM1))
set_option maxHeartbeats 2000000 in
theorem pr_addStudent {g : Gt} {α : AL} {ν : Nat → Nat → Bool} {X : XM} {h : AH} {k : Int} (hT : TR g α ν X h) (hI : INV k ν X) {a0 : Int} (ha0 : R31 a0) : PAIR g α ν X h k TZ M_L_addStudent M_X12_addStudent [.int (J a0)] := by
  have qc := wo_nC hI.1.1
  have qs := wo_nS hI.1.1
  have qf := wo_nF hI.1.1
  have qr := wo_nR hI.1.1
  have qd := wo_day hI.1.1
  by_cases h0 : 0 ≤ a0 ∧ a0 ≤ 3
  · skip
    by_cases hm : nS X < 16
    · skip
      obtain ⟨n, hn⟩ : ∃ n : Nat, nS X = (n : Int) := ⟨(nS X).toNat, by omega⟩
      have hg : gk 1 1 ≠ (4, n) := gk_ne (by show (0 : Nat) ≠ 4; decide)
      refine pair_ch (dm := 27) hT hI (z := nS X) ⟨by omega, by omega⟩ (by decide) (by decide) (w_addStudent_ok hT ⟨by omega, by omega⟩ (fun a n2 y q => (mk_fix q (show (4 : Nat) ≠ 0 by decide)).2.2.1) (c_X11_addStudent_ok hT hI.1 hI.2.1 (by first | assumption | omega | (constructor <;> omega)) (by first | assumption | omega | (constructor <;> omega)) (by first | assumption | omega | (constructor <;> omega)) hn)) (fun a n2 y hp => ?_)
      have hX := mk_x hp (show (4 : Nat) ≠ 2 by decide) hg
      have hk3 := mk_keep hI hX (show (4 : Nat) ≠ 0 by decide) (fun z => by cases z; omega)
      have hwx := wx_mkS h0 hm hI.1 hI.2.1 hn hp
      exact ⟨mk_fix hp (show (4 : Nat) ≠ 0 by decide), hwx.1, hwx.2, hk3.1, hk3.2.1, hk3.2.2, fun X1 h1 hT1 hM1 => c_X12_addStudent_ok hT1 hI.1.1 hM1 (by first | assumption | omega | (constructor <;> omega)) (by first | assumption | omega | (constructor <;> omega)) (by first | assumption | omega | (constructor <;> omega)) hn hX⟩
    · skip
      exact pair_no hT hI ⟨by decide, by decide⟩ (z2 := _) (by first | exact R31_0 | exact bi_R _) (w_addStudent_x2 hT (c_X11_addStudent_x2 hT hI.1 (by first | assumption | omega | (constructor <;> omega)) (by first | assumption | omega | (constructor <;> omega)) (by first | assumption | omega | (constructor <;> omega)))) (fun x e kk _ => by rw [e]) (fun X1 h1 hT1 hM1 => mu_wk (c_X12_addStudent_x2 hT1 hI.1.1 hM1 (by first | assumption | omega | (constructor <;> omega)) (by first | assumption | omega | (constructor <;> omega)) (by first | assumption | omega | (constructor <;> omega))) (e_x hM1))
  · skip
    exact pair_no hT hI ⟨by decide, by decide⟩ (z2 := _) (by first | exact R31_0 | exact bi_R _) (w_addStudent_x1 hT (c_X11_addStudent_x1 hT hI.1 (by first | assumption | omega | (constructor <;> omega)) (by first | assumption | omega | (constructor <;> omega)))) (fun x e kk _ => by rw [e]) (fun X1 h1 hT1 hM1 => mu_wk (c_X12_addStudent_x1 hT1 hI.1.1 hM1 (by first | assumption | omega | (constructor <;> omega)) (by first | assumption | omega | (constructor <;> omega))) (e_x hM1))
/-- where a major has room for a rule, the office has -/
theorem cnt4 {f : Nat → Int} : ∀ n : Nat, (∀ r, r < n → 0 ≤ f r ∧ f r ≤ 3) → (n : Int) = cnt (fun r => decide (f r = 0)) n + cnt (fun r => decide (f r = 1)) n + cnt (fun r => decide (f r = 2)) n + cnt (fun r => decide (f r = 3)) n
  | 0, _ => rfl
  | n + 1, hf => by
    have h1 := cnt4 (f := f) n (fun r hr => hf r (by omega))
    have h2 := hf n (by omega)
    show ((n + 1 : Nat) : Int) = (cnt _ n + (if decide (f n = 0) = true then 1 else 0)) + (cnt _ n + (if decide (f n = 1) = true then 1 else 0)) + (cnt _ n + (if decide (f n = 2) = true then 1 else 0)) + (cnt _ n + (if decide (f n = 3) = true then 1 else 0))
    rcases (show f n = 0 ∨ f n = 1 ∨ f n = 2 ∨ f n = 3 by omega) with e | e | e | e <;> simp only [e] <;> simp <;> omega
theorem nr_lt {X : XM} (hO : WO X) {m : Int} (h0 : 0 ≤ m ∧ m ≤ 3) (hm : cnt (fun r => decide (X 14 r 0 = m)) (nR X).toNat < 4) : nR X < 16 := by
  have qr := wo_nR hO
  have h1 := cnt4 (f := fun r => X 14 r 0) (nR X).toNat (fun r hr => by have := wo_rul hO r (by omega); exact ⟨this.1, this.2.1⟩)
  have a0 := wo_rm4 hO 0
  have a1 := wo_rm4 hO 1
  have a2 := wo_rm4 hO 2
  have a3 := wo_rm4 hO 3
  rcases (show m = 0 ∨ m = 1 ∨ m = 2 ∨ m = 3 by omega) with rfl | rfl | rfl | rfl <;> omega
set_option maxHeartbeats 2000000 in
theorem pr_addRule {g : Gt} {α : AL} {ν : Nat → Nat → Bool} {X : XM} {h : AH} {k : Int} (hT : TR g α ν X h) (hI : INV k ν X) {a0 : Int} (ha0 : R31 a0) {a1 : Int} (ha1 : R31 a1) {a2 : Int} (ha2 : R31 a2) : PAIR g α ν X h k TZ M_L_addRule M_X12_addRule [.int (J a0), .int (J a1), .int (J a2)] := by
  have qc := wo_nC hI.1.1
  have qs := wo_nS hI.1.1
  have qf := wo_nF hI.1.1
  have qr := wo_nR hI.1.1
  have qd := wo_day hI.1.1
  by_cases h0 : 0 ≤ a0 ∧ a0 ≤ 3
  · skip
    by_cases h2 : 0 ≤ a2 ∧ a2 ≤ 100
    · skip
      by_cases g1 : 1 ≤ a1 ∧ a1 ≤ 3
      · skip
        by_cases hm : cnt (fun r => decide (X 14 r 0 = a0)) (nR X).toNat < 4
        · skip
          have g16 : nR X < 16 := nr_lt hI.1.1 h0 hm
          obtain ⟨n, hn⟩ : ∃ n : Nat, nR X = (n : Int) := ⟨(nR X).toNat, by omega⟩
          have hg : gk 1 3 ≠ (14, n) := gk_ne (by show (0 : Nat) ≠ 14; decide)
          refine pair_ch (dm := 27) hT hI (z := nR X) ⟨by omega, by omega⟩ (by decide) (by decide) (w_addRule_ok hT ⟨by omega, by omega⟩ (fun a n2 y q => (mk_fix q (show (14 : Nat) ≠ 0 by decide)).2.2.1) (c_X11_addRule_ok hT hI.1 hI.2.1 (by first | assumption | omega | (constructor <;> omega)) (by first | assumption | omega | (constructor <;> omega)) (by first | assumption | omega | (constructor <;> omega)) (by first | assumption | omega | (constructor <;> omega)) (by first | assumption | omega | (constructor <;> omega)) (by first | assumption | omega | (constructor <;> omega)) (by first | assumption | omega | (constructor <;> omega)) hn)) (fun a n2 y hp => ?_)
          have hX := mk_x hp (show (14 : Nat) ≠ 2 by decide) hg
          have hk3 := mk_keep hI hX (show (14 : Nat) ≠ 0 by decide) (fun z => by cases z)
          have hwx := wx_mkR h0 g1 h2 g16 hm hI.1 hI.2.1 hn hp
          exact ⟨mk_fix hp (show (14 : Nat) ≠ 0 by decide), hwx.1, hwx.2, hk3.1, hk3.2.1, hk3.2.2, fun X1 h1 hT1 hM1 => c_X12_addRule_ok hT1 hI.1.1 hM1 (by first | assumption | omega | (constructor <;> omega)) (by first | assumption | omega | (constructor <;> omega)) (by first | assumption | omega | (constructor <;> omega)) (by first | assumption | omega | (constructor <;> omega)) (by first | assumption | omega | (constructor <;> omega)) (by first | assumption | omega | (constructor <;> omega)) (by first | assumption | omega | (constructor <;> omega)) (by first | assumption | omega | (constructor <;> omega)) hn hX⟩
        · skip
          exact pair_no hT hI ⟨by decide, by decide⟩ (z2 := _) (by first | exact R31_0 | exact bi_R _) (w_addRule_x2 hT (c_X11_addRule_x2 hT hI.1 (by first | assumption | omega | (constructor <;> omega)) (by first | assumption | omega | (constructor <;> omega)) (by first | assumption | omega | (constructor <;> omega)) (by first | assumption | omega | (constructor <;> omega)) (by first | assumption | omega | (constructor <;> omega)) (by first | assumption | omega | (constructor <;> omega)) (by first | assumption | omega | (constructor <;> omega)))) (fun x e kk _ => by rw [e]) (fun X1 h1 hT1 hM1 => mu_wk (c_X12_addRule_x2 hT1 hI.1.1 hM1 (by first | assumption | omega | (constructor <;> omega)) (by first | assumption | omega | (constructor <;> omega)) (by first | assumption | omega | (constructor <;> omega)) (by first | assumption | omega | (constructor <;> omega)) (by first | assumption | omega | (constructor <;> omega)) (by first | assumption | omega | (constructor <;> omega)) (by first | assumption | omega | (constructor <;> omega))) (e_x hM1))
      · skip
        exact pair_no hT hI ⟨by decide, by decide⟩ (z2 := _) (by first | exact R31_0 | exact bi_R _) (w_addRule_x1 hT (c_X11_addRule_x1c hT hI.1 (by first | assumption | omega | (constructor <;> omega)) (by first | assumption | omega | (constructor <;> omega)) (by first | assumption | omega | (constructor <;> omega)) (by first | assumption | omega | (constructor <;> omega)) (by first | assumption | omega | (constructor <;> omega)) g1)) (fun x e kk _ => by rw [e]) (fun X1 h1 hT1 hM1 => mu_wk (c_X12_addRule_x1 hT1 hI.1.1 hM1 (by first | assumption | omega | (constructor <;> omega)) (by first | assumption | omega | (constructor <;> omega)) (by first | assumption | omega | (constructor <;> omega)) (Or.inr (Or.inl g1))) (e_x hM1))
    · skip
      exact pair_no hT hI ⟨by decide, by decide⟩ (z2 := _) (by first | exact R31_0 | exact bi_R _) (w_addRule_x1 hT (c_X11_addRule_x1b hT hI.1 (by first | assumption | omega | (constructor <;> omega)) (by first | assumption | omega | (constructor <;> omega)) (by first | assumption | omega | (constructor <;> omega)) (by first | assumption | omega | (constructor <;> omega)) h2)) (fun x e kk _ => by rw [e]) (fun X1 h1 hT1 hM1 => mu_wk (c_X12_addRule_x1 hT1 hI.1.1 hM1 (by first | assumption | omega | (constructor <;> omega)) (by first | assumption | omega | (constructor <;> omega)) (by first | assumption | omega | (constructor <;> omega)) (Or.inr (Or.inr h2))) (e_x hM1))
  · skip
    exact pair_no hT hI ⟨by decide, by decide⟩ (z2 := _) (by first | exact R31_0 | exact bi_R _) (w_addRule_x1 hT (c_X11_addRule_x1a hT hI.1 (by first | assumption | omega | (constructor <;> omega)) (by first | assumption | omega | (constructor <;> omega)) (by first | assumption | omega | (constructor <;> omega)) h0)) (fun x e kk _ => by rw [e]) (fun X1 h1 hT1 hM1 => mu_wk (c_X12_addRule_x1 hT1 hI.1.1 hM1 (by first | assumption | omega | (constructor <;> omega)) (by first | assumption | omega | (constructor <;> omega)) (by first | assumption | omega | (constructor <;> omega)) (Or.inl h0)) (e_x hM1))
set_option maxHeartbeats 2000000 in
theorem pr_markFormula {g : Gt} {α : AL} {ν : Nat → Nat → Bool} {X : XM} {h : AH} {k : Int} (hT : TR g α ν X h) (hI : INV k ν X) {a0 : Int} (ha0 : R31 a0) {a1 : Int} (ha1 : R31 a1) : PAIR g α ν X h k TZ M_L_markFormula M_X12_markFormula [.int (J a0), .int (J a1)] := by
  have qc := wo_nC hI.1.1
  have qs := wo_nS hI.1.1
  have qf := wo_nF hI.1.1
  have qr := wo_nR hI.1.1
  have qd := wo_day hI.1.1
  by_cases hn0 : 0 ≤ a0 ∧ a0 < nC X
  · skip
    obtain ⟨c, rfl⟩ : ∃ z : Nat, a0 = (z : Int) := ⟨a0.toNat, by omega⟩
    have hc0 : (c : Int) < nC X := by omega
    by_cases h1 : 0 ≤ a1 ∧ a1 ≤ 100
    · skip
      by_cases hm : nF X < 60
      · skip
        obtain ⟨n, hn⟩ : ∃ n : Nat, nF X = (n : Int) := ⟨(nF X).toNat, by omega⟩
        have hg : gk 1 2 ≠ (16, n) := gk_ne (by show (0 : Nat) ≠ 16; decide)
        refine pair_ch (dm := 27) hT hI (z := nF X) ⟨by omega, by omega⟩ (by decide) (by decide) (w_markFormula_ok hT ⟨by omega, by omega⟩ (fun a n2 y q => (mk_fix q (show (16 : Nat) ≠ 0 by decide)).2.2.1) (c_X11_markFormula_ok hT hI.1 hI.2.1 (by first | assumption | omega | (constructor <;> omega)) (by first | assumption | omega | (constructor <;> omega)) (by first | assumption | omega | (constructor <;> omega)) (by first | assumption | omega | (constructor <;> omega)) hn)) (fun a n2 y hp => ?_)
        have hX := mk_x hp (show (16 : Nat) ≠ 2 by decide) hg
        have hk3 := mk_keep hI hX (show (16 : Nat) ≠ 0 by decide) (fun z => by cases z)
        have hwx := wx_mkF (y := yF 0 0 c a1 0 0) (by show FY X n _; exact ⟨⟨by show (0 : Int) ≤ 0; decide, by show (0 : Int) ≤ 5; decide⟩, ⟨by show (0 : Int) ≤ 0; decide, by show (0 : Int) ≤ 4; decide⟩, (fun _ => ⟨by show (0 : Int) ≤ c; omega, hc0, h1.1, h1.2, rfl⟩), (fun z => absurd z (by show ¬ (0 : Int) = 1; decide)), (fun z => absurd z (by show ¬ (0 : Int) = 2; decide)), (fun z => absurd z (by show ¬ (0 : Int) = 3; decide)), (fun z => absurd z (by show ¬ (0 : Int) = 4; decide))⟩) (by first | exact hm | exact hm.1) hI.1 hI.2.1 hn hp
        exact ⟨mk_fix hp (show (16 : Nat) ≠ 0 by decide), hwx.1, hwx.2, hk3.1, hk3.2.1, hk3.2.2, fun X1 h1 hT1 hM1 => c_X12_markFormula_ok hT1 hI.1.1 hM1 (by first | assumption | omega | (constructor <;> omega)) (by first | assumption | omega | (constructor <;> omega)) (by first | assumption | omega | (constructor <;> omega)) (by first | assumption | omega | (constructor <;> omega)) hn hX⟩
      · skip
        exact pair_no hT hI ⟨by decide, by decide⟩ (z2 := _) (by first | exact R31_0 | exact bi_R _) (w_markFormula_x3 hT (c_X11_markFormula_x3 hT hI.1 (by first | assumption | omega | (constructor <;> omega)) (by first | assumption | omega | (constructor <;> omega)) (by first | assumption | omega | (constructor <;> omega)) (by first | assumption | omega | (constructor <;> omega)))) (fun x e kk _ => by rw [e]) (fun X1 h1 hT1 hM1 => mu_wk (c_X12_markFormula_x3 hT1 hI.1.1 hM1 (by first | assumption | omega | (constructor <;> omega)) (by first | assumption | omega | (constructor <;> omega)) (by first | assumption | omega | (constructor <;> omega)) (by first | assumption | omega | (constructor <;> omega))) (e_x hM1))
    · skip
      exact pair_no hT hI ⟨by decide, by decide⟩ (z2 := _) (by first | exact R31_0 | exact bi_R _) (w_markFormula_x2 hT (c_X11_markFormula_x2 hT hI.1 (by first | assumption | omega | (constructor <;> omega)) (by first | assumption | omega | (constructor <;> omega)) (by first | assumption | omega | (constructor <;> omega)))) (fun x e kk _ => by rw [e]) (fun X1 h1 hT1 hM1 => mu_wk (c_X12_markFormula_x2 hT1 hI.1.1 hM1 (by first | assumption | omega | (constructor <;> omega)) (by first | assumption | omega | (constructor <;> omega)) (by first | assumption | omega | (constructor <;> omega))) (e_x hM1))
  · skip
    exact pair_no hT hI ⟨by decide, by decide⟩ (z2 := _) (by first | exact R31_0 | exact bi_R _) (w_markFormula_x1 hT (c_X11_markFormula_b1 hT hI.1 (by first | assumption | omega | (constructor <;> omega)) (by first | assumption | omega | (constructor <;> omega)) (by first | assumption | omega | (constructor <;> omega)))) (fun x e kk _ => by rw [e]) (fun X1 h1 hT1 hM1 => mu_wk (c_X12_markFormula_b1 hT1 hI.1.1 hM1 (by first | assumption | omega | (constructor <;> omega)) (by first | assumption | omega | (constructor <;> omega)) (by first | assumption | omega | (constructor <;> omega))) (e_x hM1))
set_option maxHeartbeats 2000000 in
theorem pr_togetherFormula {g : Gt} {α : AL} {ν : Nat → Nat → Bool} {X : XM} {h : AH} {k : Int} (hT : TR g α ν X h) (hI : INV k ν X) {a0 : Int} (ha0 : R31 a0) : PAIR g α ν X h k TZ M_L_togetherFormula M_X12_togetherFormula [.int (J a0)] := by
  have qc := wo_nC hI.1.1
  have qs := wo_nS hI.1.1
  have qf := wo_nF hI.1.1
  have qr := wo_nR hI.1.1
  have qd := wo_day hI.1.1
  by_cases hn0 : 0 ≤ a0 ∧ a0 < nC X
  · skip
    obtain ⟨c, rfl⟩ : ∃ z : Nat, a0 = (z : Int) := ⟨a0.toNat, by omega⟩
    have hc0 : (c : Int) < nC X := by omega
    by_cases hm : nF X < 60
    · skip
      obtain ⟨n, hn⟩ : ∃ n : Nat, nF X = (n : Int) := ⟨(nF X).toNat, by omega⟩
      have hg : gk 1 2 ≠ (16, n) := gk_ne (by show (0 : Nat) ≠ 16; decide)
      refine pair_ch (dm := 27) hT hI (z := nF X) ⟨by omega, by omega⟩ (by decide) (by decide) (w_togetherFormula_ok hT ⟨by omega, by omega⟩ (fun a n2 y q => (mk_fix q (show (16 : Nat) ≠ 0 by decide)).2.2.1) (c_X11_togetherFormula_ok hT hI.1 hI.2.1 (by first | assumption | omega | (constructor <;> omega)) (by first | assumption | omega | (constructor <;> omega)) hn)) (fun a n2 y hp => ?_)
      have hX := mk_x hp (show (16 : Nat) ≠ 2 by decide) hg
      have hk3 := mk_keep hI hX (show (16 : Nat) ≠ 0 by decide) (fun z => by cases z)
      have hwx := wx_mkF (y := yF 1 0 c 0 0 0) (by show FY X n _; exact ⟨⟨by show (0 : Int) ≤ 0; decide, by show (0 : Int) ≤ 5; decide⟩, ⟨by show (0 : Int) ≤ 1; decide, by show (1 : Int) ≤ 4; decide⟩, (fun z => absurd z (by show ¬ (1 : Int) = 0; decide)), (fun _ => ⟨by show (0 : Int) ≤ c; omega, hc0, rfl⟩), (fun z => absurd z (by show ¬ (1 : Int) = 2; decide)), (fun z => absurd z (by show ¬ (1 : Int) = 3; decide)), (fun z => absurd z (by show ¬ (1 : Int) = 4; decide))⟩) (by first | exact hm | exact hm.1) hI.1 hI.2.1 hn hp
      exact ⟨mk_fix hp (show (16 : Nat) ≠ 0 by decide), hwx.1, hwx.2, hk3.1, hk3.2.1, hk3.2.2, fun X1 h1 hT1 hM1 => c_X12_togetherFormula_ok hT1 hI.1.1 hM1 (by first | assumption | omega | (constructor <;> omega)) (by first | assumption | omega | (constructor <;> omega)) hn hX⟩
    · skip
      exact pair_no hT hI ⟨by decide, by decide⟩ (z2 := _) (by first | exact R31_0 | exact bi_R _) (w_togetherFormula_x2 hT (c_X11_togetherFormula_x2 hT hI.1 (by first | assumption | omega | (constructor <;> omega)) (by first | assumption | omega | (constructor <;> omega)))) (fun x e kk _ => by rw [e]) (fun X1 h1 hT1 hM1 => mu_wk (c_X12_togetherFormula_x2 hT1 hI.1.1 hM1 (by first | assumption | omega | (constructor <;> omega)) (by first | assumption | omega | (constructor <;> omega))) (e_x hM1))
  · skip
    exact pair_no hT hI ⟨by decide, by decide⟩ (z2 := _) (by first | exact R31_0 | exact bi_R _) (w_togetherFormula_x1 hT (c_X11_togetherFormula_b1 hT hI.1 (by first | assumption | omega | (constructor <;> omega)) (by first | assumption | omega | (constructor <;> omega)))) (fun x e kk _ => by rw [e]) (fun X1 h1 hT1 hM1 => mu_wk (c_X12_togetherFormula_b1 hT1 hI.1.1 hM1 (by first | assumption | omega | (constructor <;> omega)) (by first | assumption | omega | (constructor <;> omega))) (e_x hM1))
set_option maxHeartbeats 2000000 in
theorem pr_creditsFormula {g : Gt} {α : AL} {ν : Nat → Nat → Bool} {X : XM} {h : AH} {k : Int} (hT : TR g α ν X h) (hI : INV k ν X) {a0 : Int} (ha0 : R31 a0) : PAIR g α ν X h k TZ M_L_creditsFormula M_X12_creditsFormula [.int (J a0)] := by
  have qc := wo_nC hI.1.1
  have qs := wo_nS hI.1.1
  have qf := wo_nF hI.1.1
  have qr := wo_nR hI.1.1
  have qd := wo_day hI.1.1
  by_cases h0 : 0 ≤ a0 ∧ a0 ≤ 120
  · skip
    by_cases hm : nF X < 60
    · skip
      obtain ⟨n, hn⟩ : ∃ n : Nat, nF X = (n : Int) := ⟨(nF X).toNat, by omega⟩
      have hg : gk 1 2 ≠ (16, n) := gk_ne (by show (0 : Nat) ≠ 16; decide)
      refine pair_ch (dm := 27) hT hI (z := nF X) ⟨by omega, by omega⟩ (by decide) (by decide) (w_creditsFormula_ok hT ⟨by omega, by omega⟩ (fun a n2 y q => (mk_fix q (show (16 : Nat) ≠ 0 by decide)).2.2.1) (c_X11_creditsFormula_ok hT hI.1 hI.2.1 (by first | assumption | omega | (constructor <;> omega)) (by first | assumption | omega | (constructor <;> omega)) (by first | assumption | omega | (constructor <;> omega)) hn)) (fun a n2 y hp => ?_)
      have hX := mk_x hp (show (16 : Nat) ≠ 2 by decide) hg
      have hk3 := mk_keep hI hX (show (16 : Nat) ≠ 0 by decide) (fun z => by cases z)
      have hwx := wx_mkF (y := yF 2 0 a0 0 0 0) (by show FY X n _; exact ⟨⟨by show (0 : Int) ≤ 0; decide, by show (0 : Int) ≤ 5; decide⟩, ⟨by show (0 : Int) ≤ 2; decide, by show (2 : Int) ≤ 4; decide⟩, (fun z => absurd z (by show ¬ (2 : Int) = 0; decide)), (fun z => absurd z (by show ¬ (2 : Int) = 1; decide)), (fun _ => ⟨h0.1, h0.2, rfl⟩), (fun z => absurd z (by show ¬ (2 : Int) = 3; decide)), (fun z => absurd z (by show ¬ (2 : Int) = 4; decide))⟩) (by first | exact hm | exact hm.1) hI.1 hI.2.1 hn hp
      exact ⟨mk_fix hp (show (16 : Nat) ≠ 0 by decide), hwx.1, hwx.2, hk3.1, hk3.2.1, hk3.2.2, fun X1 h1 hT1 hM1 => c_X12_creditsFormula_ok hT1 hI.1.1 hM1 (by first | assumption | omega | (constructor <;> omega)) (by first | assumption | omega | (constructor <;> omega)) (by first | assumption | omega | (constructor <;> omega)) hn hX⟩
    · skip
      exact pair_no hT hI ⟨by decide, by decide⟩ (z2 := _) (by first | exact R31_0 | exact bi_R _) (w_creditsFormula_x2 hT (c_X11_creditsFormula_x2 hT hI.1 (by first | assumption | omega | (constructor <;> omega)) (by first | assumption | omega | (constructor <;> omega)) (by first | assumption | omega | (constructor <;> omega)))) (fun x e kk _ => by rw [e]) (fun X1 h1 hT1 hM1 => mu_wk (c_X12_creditsFormula_x2 hT1 hI.1.1 hM1 (by first | assumption | omega | (constructor <;> omega)) (by first | assumption | omega | (constructor <;> omega)) (by first | assumption | omega | (constructor <;> omega))) (e_x hM1))
  · skip
    exact pair_no hT hI ⟨by decide, by decide⟩ (z2 := _) (by first | exact R31_0 | exact bi_R _) (w_creditsFormula_x1 hT (c_X11_creditsFormula_x1 hT hI.1 (by first | assumption | omega | (constructor <;> omega)) (by first | assumption | omega | (constructor <;> omega)))) (fun x e kk _ => by rw [e]) (fun X1 h1 hT1 hM1 => mu_wk (c_X12_creditsFormula_x1 hT1 hI.1.1 hM1 (by first | assumption | omega | (constructor <;> omega)) (by first | assumption | omega | (constructor <;> omega))) (e_x hM1))
set_option maxHeartbeats 2000000 in
theorem pr_allFormula {g : Gt} {α : AL} {ν : Nat → Nat → Bool} {X : XM} {h : AH} {k : Int} (hT : TR g α ν X h) (hI : INV k ν X) {a0 : Int} (ha0 : R31 a0) {a1 : Int} (ha1 : R31 a1) : PAIR g α ν X h k TZ M_L_allFormula M_X12_allFormula [.int (J a0), .int (J a1)] := by
  have qc := wo_nC hI.1.1
  have qs := wo_nS hI.1.1
  have qf := wo_nF hI.1.1
  have qr := wo_nR hI.1.1
  have qd := wo_day hI.1.1
  by_cases hn0 : 0 ≤ a0 ∧ a0 < nF X
  · skip
    obtain ⟨f, rfl⟩ : ∃ z : Nat, a0 = (z : Int) := ⟨a0.toNat, by omega⟩
    have hf0 : (f : Int) < nF X := by omega
    by_cases hn1 : 0 ≤ a1 ∧ a1 < nF X
    · skip
      obtain ⟨f2, rfl⟩ : ∃ z : Nat, a1 = (z : Int) := ⟨a1.toNat, by omega⟩
      have hf20 : (f2 : Int) < nF X := by omega
      by_cases hm : nF X < 60 ∧ 1 + mxI (X 16 f 0) (X 16 f2 0) ≤ 5
      · skip
        have qd1 := wo_dep hI.1.1 f hf0
        have qd2 := wo_dep hI.1.1 f2 hf20
        have qm := mxI_ge (X 16 f 0) (X 16 f2 0)
        obtain ⟨n, hn⟩ : ∃ n : Nat, nF X = (n : Int) := ⟨(nF X).toNat, by omega⟩
        have hg : gk 1 2 ≠ (16, n) := gk_ne (by show (0 : Nat) ≠ 16; decide)
        refine pair_ch (dm := 27) hT hI (z := nF X) ⟨by omega, by omega⟩ (by decide) (by decide) (w_allFormula_ok hT ⟨by omega, by omega⟩ (fun a n2 y q => (mk_fix q (show (16 : Nat) ≠ 0 by decide)).2.2.1) (c_X11_allFormula_ok hT hI.1 hI.2.1 (by first | assumption | omega | (constructor <;> omega)) (by first | assumption | omega | (constructor <;> omega)) (by first | assumption | omega | (constructor <;> omega)) hn)) (fun a n2 y hp => ?_)
        have hX := mk_x hp (show (16 : Nat) ≠ 2 by decide) hg
        have hk3 := mk_keep hI hX (show (16 : Nat) ≠ 0 by decide) (fun z => by cases z)
        have hwx := wx_mkF (y := yF 3 (1 + mxI (X 16 f 0) (X 16 f2 0)) 2 f f2 (-1)) (by show FY X n _; exact ⟨⟨by show (0 : Int) ≤ 1 + mxI (X 16 f 0) (X 16 f2 0); omega, hm.2⟩, ⟨by show (0 : Int) ≤ 3; decide, by show (3 : Int) ≤ 4; decide⟩, (fun z => absurd z (by show ¬ (3 : Int) = 0; decide)), (fun z => absurd z (by show ¬ (3 : Int) = 1; decide)), (fun z => absurd z (by show ¬ (3 : Int) = 2; decide)), (fun _ => ⟨by show (0 : Int) ≤ f; omega, by show (f : Int) < n; omega, by show (0 : Int) ≤ f2; omega, by show (f2 : Int) < n; omega, by show (-1 : Int) ≤ -1; decide, by show (-1 : Int) < n; omega, Or.inr rfl, fun w => absurd rfl w, by show X 16 f 0 < 1 + mxI (X 16 f 0) (X 16 f2 0); omega, by show X 16 f2 0 < 1 + mxI (X 16 f 0) (X 16 f2 0); omega, fun w => absurd rfl w⟩), (fun z => absurd z (by show ¬ (3 : Int) = 4; decide))⟩) (by first | exact hm | exact hm.1) hI.1 hI.2.1 hn hp
        exact ⟨mk_fix hp (show (16 : Nat) ≠ 0 by decide), hwx.1, hwx.2, hk3.1, hk3.2.1, hk3.2.2, fun X1 h1 hT1 hM1 => c_X12_allFormula_ok hT1 hI.1.1 hM1 (by first | assumption | omega | (constructor <;> omega)) (by first | assumption | omega | (constructor <;> omega)) (by first | assumption | omega | (constructor <;> omega)) hn hX⟩
      · skip
        exact pair_no hT hI ⟨by decide, by decide⟩ (z2 := _) (by first | exact R31_0 | exact bi_R _) (w_allFormula_x2 hT (c_X11_allFormula_x2 hT hI.1 (by first | assumption | omega | (constructor <;> omega)) (by first | assumption | omega | (constructor <;> omega)) (by first | assumption | omega | (constructor <;> omega)))) (fun x e kk _ => by rw [e]) (fun X1 h1 hT1 hM1 => mu_wk (c_X12_allFormula_x2 hT1 hI.1.1 hM1 (by first | assumption | omega | (constructor <;> omega)) (by first | assumption | omega | (constructor <;> omega)) (by first | assumption | omega | (constructor <;> omega))) (e_x hM1))
    · skip
      exact pair_no hT hI ⟨by decide, by decide⟩ (z2 := _) (by first | exact R31_0 | exact bi_R _) (w_allFormula_x1 hT (c_X11_allFormula_b2 hT hI.1 (by first | assumption | omega | (constructor <;> omega)) (by first | assumption | omega | (constructor <;> omega)) (by first | assumption | omega | (constructor <;> omega)))) (fun x e kk _ => by rw [e]) (fun X1 h1 hT1 hM1 => mu_wk (c_X12_allFormula_b2 hT1 hI.1.1 hM1 (by first | assumption | omega | (constructor <;> omega)) (by first | assumption | omega | (constructor <;> omega)) (by first | assumption | omega | (constructor <;> omega))) (e_x hM1))
  · skip
    exact pair_no hT hI ⟨by decide, by decide⟩ (z2 := _) (by first | exact R31_0 | exact bi_R _) (w_allFormula_x1 hT (c_X11_allFormula_b1 hT hI.1 (by first | assumption | omega | (constructor <;> omega)) (by first | assumption | omega | (constructor <;> omega)) (by first | assumption | omega | (constructor <;> omega)))) (fun x e kk _ => by rw [e]) (fun X1 h1 hT1 hM1 => mu_wk (c_X12_allFormula_b1 hT1 hI.1.1 hM1 (by first | assumption | omega | (constructor <;> omega)) (by first | assumption | omega | (constructor <;> omega)) (by first | assumption | omega | (constructor <;> omega))) (e_x hM1))
set_option maxHeartbeats 2000000 in
theorem pr_anyFormula {g : Gt} {α : AL} {ν : Nat → Nat → Bool} {X : XM} {h : AH} {k : Int} (hT : TR g α ν X h) (hI : INV k ν X) {a0 : Int} (ha0 : R31 a0) {a1 : Int} (ha1 : R31 a1) : PAIR g α ν X h k TZ M_L_anyFormula M_X12_anyFormula [.int (J a0), .int (J a1)] := by
  have qc := wo_nC hI.1.1
  have qs := wo_nS hI.1.1
  have qf := wo_nF hI.1.1
  have qr := wo_nR hI.1.1
  have qd := wo_day hI.1.1
  by_cases hn0 : 0 ≤ a0 ∧ a0 < nF X
  · skip
    obtain ⟨f, rfl⟩ : ∃ z : Nat, a0 = (z : Int) := ⟨a0.toNat, by omega⟩
    have hf0 : (f : Int) < nF X := by omega
    by_cases hn1 : 0 ≤ a1 ∧ a1 < nF X
    · skip
      obtain ⟨f2, rfl⟩ : ∃ z : Nat, a1 = (z : Int) := ⟨a1.toNat, by omega⟩
      have hf20 : (f2 : Int) < nF X := by omega
      by_cases hm : nF X < 60 ∧ 1 + mxI (X 16 f 0) (X 16 f2 0) ≤ 5
      · skip
        have qd1 := wo_dep hI.1.1 f hf0
        have qd2 := wo_dep hI.1.1 f2 hf20
        have qm := mxI_ge (X 16 f 0) (X 16 f2 0)
        obtain ⟨n, hn⟩ : ∃ n : Nat, nF X = (n : Int) := ⟨(nF X).toNat, by omega⟩
        have hg : gk 1 2 ≠ (16, n) := gk_ne (by show (0 : Nat) ≠ 16; decide)
        refine pair_ch (dm := 27) hT hI (z := nF X) ⟨by omega, by omega⟩ (by decide) (by decide) (w_anyFormula_ok hT ⟨by omega, by omega⟩ (fun a n2 y q => (mk_fix q (show (16 : Nat) ≠ 0 by decide)).2.2.1) (c_X11_anyFormula_ok hT hI.1 hI.2.1 (by first | assumption | omega | (constructor <;> omega)) (by first | assumption | omega | (constructor <;> omega)) (by first | assumption | omega | (constructor <;> omega)) hn)) (fun a n2 y hp => ?_)
        have hX := mk_x hp (show (16 : Nat) ≠ 2 by decide) hg
        have hk3 := mk_keep hI hX (show (16 : Nat) ≠ 0 by decide) (fun z => by cases z)
        have hwx := wx_mkF (y := yF 3 (1 + mxI (X 16 f 0) (X 16 f2 0)) 1 f f2 (-1)) (by show FY X n _; exact ⟨⟨by show (0 : Int) ≤ 1 + mxI (X 16 f 0) (X 16 f2 0); omega, hm.2⟩, ⟨by show (0 : Int) ≤ 3; decide, by show (3 : Int) ≤ 4; decide⟩, (fun z => absurd z (by show ¬ (3 : Int) = 0; decide)), (fun z => absurd z (by show ¬ (3 : Int) = 1; decide)), (fun z => absurd z (by show ¬ (3 : Int) = 2; decide)), (fun _ => ⟨by show (0 : Int) ≤ f; omega, by show (f : Int) < n; omega, by show (0 : Int) ≤ f2; omega, by show (f2 : Int) < n; omega, by show (-1 : Int) ≤ -1; decide, by show (-1 : Int) < n; omega, Or.inl rfl, fun w => absurd rfl w, by show X 16 f 0 < 1 + mxI (X 16 f 0) (X 16 f2 0); omega, by show X 16 f2 0 < 1 + mxI (X 16 f 0) (X 16 f2 0); omega, fun w => absurd rfl w⟩), (fun z => absurd z (by show ¬ (3 : Int) = 4; decide))⟩) (by first | exact hm | exact hm.1) hI.1 hI.2.1 hn hp
        exact ⟨mk_fix hp (show (16 : Nat) ≠ 0 by decide), hwx.1, hwx.2, hk3.1, hk3.2.1, hk3.2.2, fun X1 h1 hT1 hM1 => c_X12_anyFormula_ok hT1 hI.1.1 hM1 (by first | assumption | omega | (constructor <;> omega)) (by first | assumption | omega | (constructor <;> omega)) (by first | assumption | omega | (constructor <;> omega)) hn hX⟩
      · skip
        exact pair_no hT hI ⟨by decide, by decide⟩ (z2 := _) (by first | exact R31_0 | exact bi_R _) (w_anyFormula_x2 hT (c_X11_anyFormula_x2 hT hI.1 (by first | assumption | omega | (constructor <;> omega)) (by first | assumption | omega | (constructor <;> omega)) (by first | assumption | omega | (constructor <;> omega)))) (fun x e kk _ => by rw [e]) (fun X1 h1 hT1 hM1 => mu_wk (c_X12_anyFormula_x2 hT1 hI.1.1 hM1 (by first | assumption | omega | (constructor <;> omega)) (by first | assumption | omega | (constructor <;> omega)) (by first | assumption | omega | (constructor <;> omega))) (e_x hM1))
    · skip
      exact pair_no hT hI ⟨by decide, by decide⟩ (z2 := _) (by first | exact R31_0 | exact bi_R _) (w_anyFormula_x1 hT (c_X11_anyFormula_b2 hT hI.1 (by first | assumption | omega | (constructor <;> omega)) (by first | assumption | omega | (constructor <;> omega)) (by first | assumption | omega | (constructor <;> omega)))) (fun x e kk _ => by rw [e]) (fun X1 h1 hT1 hM1 => mu_wk (c_X12_anyFormula_b2 hT1 hI.1.1 hM1 (by first | assumption | omega | (constructor <;> omega)) (by first | assumption | omega | (constructor <;> omega)) (by first | assumption | omega | (constructor <;> omega))) (e_x hM1))
  · skip
    exact pair_no hT hI ⟨by decide, by decide⟩ (z2 := _) (by first | exact R31_0 | exact bi_R _) (w_anyFormula_x1 hT (c_X11_anyFormula_b1 hT hI.1 (by first | assumption | omega | (constructor <;> omega)) (by first | assumption | omega | (constructor <;> omega)) (by first | assumption | omega | (constructor <;> omega)))) (fun x e kk _ => by rw [e]) (fun X1 h1 hT1 hM1 => mu_wk (c_X12_anyFormula_b1 hT1 hI.1.1 hM1 (by first | assumption | omega | (constructor <;> omega)) (by first | assumption | omega | (constructor <;> omega)) (by first | assumption | omega | (constructor <;> omega))) (e_x hM1))
set_option maxHeartbeats 2000000 in
theorem pr_twoFormula {g : Gt} {α : AL} {ν : Nat → Nat → Bool} {X : XM} {h : AH} {k : Int} (hT : TR g α ν X h) (hI : INV k ν X) {a0 : Int} (ha0 : R31 a0) {a1 : Int} (ha1 : R31 a1) {a2 : Int} (ha2 : R31 a2) : PAIR g α ν X h k TZ M_L_twoFormula M_X12_twoFormula [.int (J a0), .int (J a1), .int (J a2)] := by
  have qc := wo_nC hI.1.1
  have qs := wo_nS hI.1.1
  have qf := wo_nF hI.1.1
  have qr := wo_nR hI.1.1
  have qd := wo_day hI.1.1
  by_cases hn0 : 0 ≤ a0 ∧ a0 < nF X
  · skip
    obtain ⟨f, rfl⟩ : ∃ z : Nat, a0 = (z : Int) := ⟨a0.toNat, by omega⟩
    have hf0 : (f : Int) < nF X := by omega
    by_cases hn1 : 0 ≤ a1 ∧ a1 < nF X
    · skip
      obtain ⟨f2, rfl⟩ : ∃ z : Nat, a1 = (z : Int) := ⟨a1.toNat, by omega⟩
      have hf20 : (f2 : Int) < nF X := by omega
      by_cases hn2 : 0 ≤ a2 ∧ a2 < nF X
      · skip
        obtain ⟨f3, rfl⟩ : ∃ z : Nat, a2 = (z : Int) := ⟨a2.toNat, by omega⟩
        have hf30 : (f3 : Int) < nF X := by omega
        by_cases hm : nF X < 60 ∧ 1 + mxI (mxI (X 16 f 0) (X 16 f2 0)) (X 16 f3 0) ≤ 5
        · skip
          have qd1 := wo_dep hI.1.1 f hf0
          have qd2 := wo_dep hI.1.1 f2 hf20
          have qd3 := wo_dep hI.1.1 f3 hf30
          have qm := mxI_ge (X 16 f 0) (X 16 f2 0)
          have qm2 := mxI_ge (mxI (X 16 f 0) (X 16 f2 0)) (X 16 f3 0)
          obtain ⟨n, hn⟩ : ∃ n : Nat, nF X = (n : Int) := ⟨(nF X).toNat, by omega⟩
          have hg : gk 1 2 ≠ (16, n) := gk_ne (by show (0 : Nat) ≠ 16; decide)
          refine pair_ch (dm := 27) hT hI (z := nF X) ⟨by omega, by omega⟩ (by decide) (by decide) (w_twoFormula_ok hT ⟨by omega, by omega⟩ (fun a n2 y q => (mk_fix q (show (16 : Nat) ≠ 0 by decide)).2.2.1) (c_X11_twoFormula_ok hT hI.1 hI.2.1 (by first | assumption | omega | (constructor <;> omega)) (by first | assumption | omega | (constructor <;> omega)) (by first | assumption | omega | (constructor <;> omega)) (by first | assumption | omega | (constructor <;> omega)) hn)) (fun a n2 y hp => ?_)
          have hX := mk_x hp (show (16 : Nat) ≠ 2 by decide) hg
          have hk3 := mk_keep hI hX (show (16 : Nat) ≠ 0 by decide) (fun z => by cases z)
          have hwx := wx_mkF (y := yF 3 (1 + mxI (mxI (X 16 f 0) (X 16 f2 0)) (X 16 f3 0)) 2 f f2 f3) (by show FY X n _; exact ⟨⟨by show (0 : Int) ≤ 1 + mxI (mxI (X 16 f 0) (X 16 f2 0)) (X 16 f3 0); omega, hm.2⟩, ⟨by show (0 : Int) ≤ 3; decide, by show (3 : Int) ≤ 4; decide⟩, (fun z => absurd z (by show ¬ (3 : Int) = 0; decide)), (fun z => absurd z (by show ¬ (3 : Int) = 1; decide)), (fun z => absurd z (by show ¬ (3 : Int) = 2; decide)), (fun _ => ⟨by show (0 : Int) ≤ f; omega, by show (f : Int) < n; omega, by show (0 : Int) ≤ f2; omega, by show (f2 : Int) < n; omega, by show (-1 : Int) ≤ f3; omega, by show (f3 : Int) < n; omega, Or.inr rfl, fun _ => rfl, by show X 16 f 0 < 1 + mxI (mxI (X 16 f 0) (X 16 f2 0)) (X 16 f3 0); omega, by show X 16 f2 0 < 1 + mxI (mxI (X 16 f 0) (X 16 f2 0)) (X 16 f3 0); omega, fun _ => by show X 16 f3 0 < 1 + mxI (mxI (X 16 f 0) (X 16 f2 0)) (X 16 f3 0); omega⟩), (fun z => absurd z (by show ¬ (3 : Int) = 4; decide))⟩) (by first | exact hm | exact hm.1) hI.1 hI.2.1 hn hp
          exact ⟨mk_fix hp (show (16 : Nat) ≠ 0 by decide), hwx.1, hwx.2, hk3.1, hk3.2.1, hk3.2.2, fun X1 h1 hT1 hM1 => c_X12_twoFormula_ok hT1 hI.1.1 hM1 (by first | assumption | omega | (constructor <;> omega)) (by first | assumption | omega | (constructor <;> omega)) (by first | assumption | omega | (constructor <;> omega)) (by first | assumption | omega | (constructor <;> omega)) hn hX⟩
        · skip
          exact pair_no hT hI ⟨by decide, by decide⟩ (z2 := _) (by first | exact R31_0 | exact bi_R _) (w_twoFormula_x2 hT (c_X11_twoFormula_x2 hT hI.1 (by first | assumption | omega | (constructor <;> omega)) (by first | assumption | omega | (constructor <;> omega)) (by first | assumption | omega | (constructor <;> omega)) (by first | assumption | omega | (constructor <;> omega)))) (fun x e kk _ => by rw [e]) (fun X1 h1 hT1 hM1 => mu_wk (c_X12_twoFormula_x2 hT1 hI.1.1 hM1 (by first | assumption | omega | (constructor <;> omega)) (by first | assumption | omega | (constructor <;> omega)) (by first | assumption | omega | (constructor <;> omega)) (by first | assumption | omega | (constructor <;> omega))) (e_x hM1))
      · skip
        exact pair_no hT hI ⟨by decide, by decide⟩ (z2 := _) (by first | exact R31_0 | exact bi_R _) (w_twoFormula_x1 hT (c_X11_twoFormula_b3 hT hI.1 (by first | assumption | omega | (constructor <;> omega)) (by first | assumption | omega | (constructor <;> omega)) (by first | assumption | omega | (constructor <;> omega)) (by first | assumption | omega | (constructor <;> omega)))) (fun x e kk _ => by rw [e]) (fun X1 h1 hT1 hM1 => mu_wk (c_X12_twoFormula_b3 hT1 hI.1.1 hM1 (by first | assumption | omega | (constructor <;> omega)) (by first | assumption | omega | (constructor <;> omega)) (by first | assumption | omega | (constructor <;> omega)) (by first | assumption | omega | (constructor <;> omega))) (e_x hM1))
    · skip
      exact pair_no hT hI ⟨by decide, by decide⟩ (z2 := _) (by first | exact R31_0 | exact bi_R _) (w_twoFormula_x1 hT (c_X11_twoFormula_b2 hT hI.1 (by first | assumption | omega | (constructor <;> omega)) (by first | assumption | omega | (constructor <;> omega)) (by first | assumption | omega | (constructor <;> omega)) (by first | assumption | omega | (constructor <;> omega)))) (fun x e kk _ => by rw [e]) (fun X1 h1 hT1 hM1 => mu_wk (c_X12_twoFormula_b2 hT1 hI.1.1 hM1 (by first | assumption | omega | (constructor <;> omega)) (by first | assumption | omega | (constructor <;> omega)) (by first | assumption | omega | (constructor <;> omega)) (by first | assumption | omega | (constructor <;> omega))) (e_x hM1))
  · skip
    exact pair_no hT hI ⟨by decide, by decide⟩ (z2 := _) (by first | exact R31_0 | exact bi_R _) (w_twoFormula_x1 hT (c_X11_twoFormula_b1 hT hI.1 (by first | assumption | omega | (constructor <;> omega)) (by first | assumption | omega | (constructor <;> omega)) (by first | assumption | omega | (constructor <;> omega)) (by first | assumption | omega | (constructor <;> omega)))) (fun x e kk _ => by rw [e]) (fun X1 h1 hT1 hM1 => mu_wk (c_X12_twoFormula_b1 hT1 hI.1.1 hM1 (by first | assumption | omega | (constructor <;> omega)) (by first | assumption | omega | (constructor <;> omega)) (by first | assumption | omega | (constructor <;> omega)) (by first | assumption | omega | (constructor <;> omega))) (e_x hM1))
set_option maxHeartbeats 2000000 in
theorem pr_noneFormula {g : Gt} {α : AL} {ν : Nat → Nat → Bool} {X : XM} {h : AH} {k : Int} (hT : TR g α ν X h) (hI : INV k ν X) {a0 : Int} (ha0 : R31 a0) : PAIR g α ν X h k TZ M_L_noneFormula M_X12_noneFormula [.int (J a0)] := by
  have qc := wo_nC hI.1.1
  have qs := wo_nS hI.1.1
  have qf := wo_nF hI.1.1
  have qr := wo_nR hI.1.1
  have qd := wo_day hI.1.1
  by_cases hn0 : 0 ≤ a0 ∧ a0 < nF X
  · skip
    obtain ⟨f, rfl⟩ : ∃ z : Nat, a0 = (z : Int) := ⟨a0.toNat, by omega⟩
    have hf0 : (f : Int) < nF X := by omega
    by_cases hm : nF X < 60 ∧ 1 + X 16 f 0 ≤ 5
    · skip
      have qd1 := wo_dep hI.1.1 f hf0
      obtain ⟨n, hn⟩ : ∃ n : Nat, nF X = (n : Int) := ⟨(nF X).toNat, by omega⟩
      have hg : gk 1 2 ≠ (16, n) := gk_ne (by show (0 : Nat) ≠ 16; decide)
      refine pair_ch (dm := 27) hT hI (z := nF X) ⟨by omega, by omega⟩ (by decide) (by decide) (w_noneFormula_ok hT ⟨by omega, by omega⟩ (fun a n2 y q => (mk_fix q (show (16 : Nat) ≠ 0 by decide)).2.2.1) (c_X11_noneFormula_ok hT hI.1 hI.2.1 (by first | assumption | omega | (constructor <;> omega)) (by first | assumption | omega | (constructor <;> omega)) hn)) (fun a n2 y hp => ?_)
      have hX := mk_x hp (show (16 : Nat) ≠ 2 by decide) hg
      have hk3 := mk_keep hI hX (show (16 : Nat) ≠ 0 by decide) (fun z => by cases z)
      have hwx := wx_mkF (y := yF 4 (1 + X 16 f 0) f 0 0 0) (by show FY X n _; exact ⟨⟨by show (0 : Int) ≤ 1 + X 16 f 0; omega, hm.2⟩, ⟨by show (0 : Int) ≤ 4; decide, by show (4 : Int) ≤ 4; decide⟩, (fun z => absurd z (by show ¬ (4 : Int) = 0; decide)), (fun z => absurd z (by show ¬ (4 : Int) = 1; decide)), (fun z => absurd z (by show ¬ (4 : Int) = 2; decide)), (fun z => absurd z (by show ¬ (4 : Int) = 3; decide)), (fun _ => ⟨by show (0 : Int) ≤ f; omega, by show (f : Int) < n; omega, by show X 16 f 0 < 1 + X 16 f 0; omega⟩)⟩) (by first | exact hm | exact hm.1) hI.1 hI.2.1 hn hp
      exact ⟨mk_fix hp (show (16 : Nat) ≠ 0 by decide), hwx.1, hwx.2, hk3.1, hk3.2.1, hk3.2.2, fun X1 h1 hT1 hM1 => c_X12_noneFormula_ok hT1 hI.1.1 hM1 (by first | assumption | omega | (constructor <;> omega)) (by first | assumption | omega | (constructor <;> omega)) hn hX⟩
    · skip
      exact pair_no hT hI ⟨by decide, by decide⟩ (z2 := _) (by first | exact R31_0 | exact bi_R _) (w_noneFormula_x2 hT (c_X11_noneFormula_x2 hT hI.1 (by first | assumption | omega | (constructor <;> omega)) (by first | assumption | omega | (constructor <;> omega)))) (fun x e kk _ => by rw [e]) (fun X1 h1 hT1 hM1 => mu_wk (c_X12_noneFormula_x2 hT1 hI.1.1 hM1 (by first | assumption | omega | (constructor <;> omega)) (by first | assumption | omega | (constructor <;> omega))) (e_x hM1))
  · skip
    exact pair_no hT hI ⟨by decide, by decide⟩ (z2 := _) (by first | exact R31_0 | exact bi_R _) (w_noneFormula_x1 hT (c_X11_noneFormula_b1 hT hI.1 (by first | assumption | omega | (constructor <;> omega)) (by first | assumption | omega | (constructor <;> omega)))) (fun x e kk _ => by rw [e]) (fun X1 h1 hT1 hM1 => mu_wk (c_X12_noneFormula_b1 hT1 hI.1.1 hM1 (by first | assumption | omega | (constructor <;> omega)) (by first | assumption | omega | (constructor <;> omega))) (e_x hM1))
