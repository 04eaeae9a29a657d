/-! CALLS BESIDE THEIR REFERENCES: enroll, swap, termsTo, transcriptAt, ruleFor, endTerm -/
set_option maxHeartbeats 2000000 in
theorem pr_enroll {g : Gt} {α : AL} {ν : Nat → Nat → Bool} {X : XM} {h : AH} {k : Int} (hT : TR g α ν X h) (hI : INV k ν X) {a0 : Int} (ha0 : R31 a0) {a1 : Int} (ha1 : R31 a1) : PAIR g α ν X h k TZ M_L_enroll M_X12_enroll [.int (J a0), .int (J a1)] := by
  have qc := wo_nC hI.1.1
  have qs := wo_nS hI.1.1
  have qf := wo_nF hI.1.1
  have qr := wo_nR hI.1.1
  have qd := wo_day hI.1.1
  by_cases hn0 : 0 ≤ a0 ∧ a0 < nS X
  · skip
    obtain ⟨s, rfl⟩ : ∃ z : Nat, a0 = (z : Int) := ⟨a0.toNat, by omega⟩
    have hs0 : (s : Int) < nS X := by omega
    by_cases hn1 : 0 ≤ a1 ∧ a1 < nC X
    · skip
      obtain ⟨c, rfl⟩ : ∃ z : Nat, a1 = (z : Int) := ⟨a1.toNat, by omega⟩
      have hc0 : (c : Int) < nC X := by omega
      rcases ltr_in X s c with e | e | e | e | e | e | e | e
      · skip
        exact pair_no hT hI ⟨by decide, by decide⟩ (z2 := _) (by first | exact R31_0 | exact bi_R _) (w_enroll_x2 hT (c_X11_enroll_x2 hT hI.1 (by first | assumption | omega | (constructor <;> omega)) (by first | assumption | omega | (constructor <;> omega)) (by first | assumption | omega | (constructor <;> omega)))) (fun x e kk _ => by rw [e]) (fun X1 h1 hT1 hM1 => mu_wk (c_X12_enroll_x2 hT1 hI.1.1 hM1 (by first | assumption | omega | (constructor <;> omega)) (by first | assumption | omega | (constructor <;> omega)) (by first | assumption | omega | (constructor <;> omega))) (e_x hM1))
      · skip
        exact pair_no hT hI ⟨by decide, by decide⟩ (z2 := _) (by first | exact R31_0 | exact bi_R _) (w_enroll_x3 hT (c_X11_enroll_x3 hT hI.1 (by first | assumption | omega | (constructor <;> omega)) (by first | assumption | omega | (constructor <;> omega)) (by first | assumption | omega | (constructor <;> omega)))) (fun x e kk _ => by rw [e]) (fun X1 h1 hT1 hM1 => mu_wk (c_X12_enroll_x3 hT1 hI.1.1 hM1 (by first | assumption | omega | (constructor <;> omega)) (by first | assumption | omega | (constructor <;> omega)) (by first | assumption | omega | (constructor <;> omega))) (e_x hM1))
      · skip
        exact pair_no hT hI ⟨by decide, by decide⟩ (z2 := _) (by first | exact R31_0 | exact bi_R _) (w_enroll_x4 hT (c_X11_enroll_x4a hT hI.1 (by first | assumption | omega | (constructor <;> omega)) (by first | assumption | omega | (constructor <;> omega)) (by first | assumption | omega | (constructor <;> omega)))) (fun x e kk _ => by rw [e]) (fun X1 h1 hT1 hM1 => mu_wk (c_X12_enroll_x4a hT1 hI.1.1 hM1 (by first | assumption | omega | (constructor <;> omega)) (by first | assumption | omega | (constructor <;> omega)) (by first | assumption | omega | (constructor <;> omega))) (e_x hM1))
      · skip
        exact pair_no hT hI ⟨by decide, by decide⟩ (z2 := _) (by first | exact R31_0 | exact bi_R _) (w_enroll_x4 hT (c_X11_enroll_x4b hT hI.1 (by first | assumption | omega | (constructor <;> omega)) (by first | assumption | omega | (constructor <;> omega)) (by first | assumption | omega | (constructor <;> omega)))) (fun x e kk _ => by rw [e]) (fun X1 h1 hT1 hM1 => mu_wk (c_X12_enroll_x4b hT1 hI.1.1 hM1 (by first | assumption | omega | (constructor <;> omega)) (by first | assumption | omega | (constructor <;> omega)) (by first | assumption | omega | (constructor <;> omega))) (e_x hM1))
      · skip
        exact pair_no hT hI ⟨by decide, by decide⟩ (z2 := _) (by first | exact R31_0 | exact bi_R _) (w_enroll_x5 hT (c_X11_enroll_x5 hT hI.1 (by first | assumption | omega | (constructor <;> omega)) (by first | assumption | omega | (constructor <;> omega)) (by first | assumption | omega | (constructor <;> omega)))) (fun x e kk _ => by rw [e]) (fun X1 h1 hT1 hM1 => mu_wk (c_X12_enroll_x5 hT1 hI.1.1 hM1 (by first | assumption | omega | (constructor <;> omega)) (by first | assumption | omega | (constructor <;> omega)) (by first | assumption | omega | (constructor <;> omega))) (e_x hM1))
      · skip
        have ql := ltr_at (Or.inl e)
        have hf := ql.2.2.2.2 e
        have h9 := ql.2.1
        exact pair_op hT hI (⟨by decide, by decide⟩) (w_enroll_ok hT (⟨by decide, by decide⟩) (fun a n x q => by rw [q.1]) (al_of_mu (c_X11_enroll_okt hT hI.1 (by first | assumption | omega | (constructor <;> omega)) (by first | assumption | omega | (constructor <;> omega)) (by first | assumption | omega | (constructor <;> omega)) (by first | assumption | omega | (constructor <;> omega))))) ((kq_xs (by decide) (by decide) (by decide) (fun _ => by omega) (fun z => by cases z)).trans (kq_gv (wo_t1 hI.1.1 (by omega) (by omega) (by omega)))) (fun X1 h1 hT1 hM1 => mu_wk (c_X12_enroll_okt hT1 hI.1.1 hM1 (by first | assumption | omega | (constructor <;> omega)) (by first | assumption | omega | (constructor <;> omega)) (by first | assumption | omega | (constructor <;> omega)) (by first | assumption | omega | (constructor <;> omega)) (by first | assumption | omega | (constructor <;> omega))) (fun x q => q))
      · skip
        exact pair_no hT hI ⟨by decide, by decide⟩ (z2 := _) (by first | exact R31_0 | exact bi_R _) (w_enroll_x6 hT (c_X11_enroll_x6 hT hI.1 (by first | assumption | omega | (constructor <;> omega)) (by first | assumption | omega | (constructor <;> omega)) (by first | assumption | omega | (constructor <;> omega)))) (fun x e kk _ => by rw [e]) (fun X1 h1 hT1 hM1 => mu_wk (c_X12_enroll_x6 hT1 hI.1.1 hM1 (by first | assumption | omega | (constructor <;> omega)) (by first | assumption | omega | (constructor <;> omega)) (by first | assumption | omega | (constructor <;> omega))) (e_x hM1))
      · skip
        have ql := ltr_at (Or.inr e)
        obtain ⟨h6, hnf⟩ := ql.2.2.2.1 e
        refine pair_ch (dm := 27) hT hI (z := 119) ⟨by decide, by decide⟩ (by decide) (by decide) (w_enroll_ok hT ⟨by decide, by decide⟩ (fun a n2 y q => by obtain ⟨X1, hA, -⟩ := q; exact hA.1 90 0 (by omega)) (c_X11_enroll_okw hT hI.1 hI.2.1 hs0 hc0 e ql.1 h6 ql.2.1)) (fun a n2 y hp => ?_)
        obtain ⟨X1, hA, hW1, rfl, hW2⟩ := hp
        have kg := kq_gv hW1.1
        have kA : ∀ kk j, (kk ≠ 1 ∧ kk ≠ 2) → X1 kk j = X kk j := fun kk j q => hA.2.2.1 kk j (by omega) (by omega)
        refine ⟨⟨hA.1 0 0 (by omega), hA.1 40 0 (by omega), hA.1 90 0 (by omega), hA.1 91 0 (by omega)⟩, hW2, nv_kp (nv_add hI.1 hI.2.1 hc0 hs0 hA) kg.1, fun kk q => (kg.2.1 kk q).trans (funext fun j => kA kk j (by omega)), fun c2 h2 => ?_, ?_, fun X2 h1 hT1 hM1 => c_X12_enroll_okw hT1 hI.1.1 hM1 hs0 hc0 e hnf h6 hA hW1.1⟩
        · rw [kg.2.2.1, kA 5 16 (by omega)]; exact hI.2.2.2.1 c2 h2
        · rw [kg.2.2.2, kA 0 0 (by omega)]; have := hI.2.2.2.2; omega
    · skip
      exact pair_no hT hI ⟨by decide, by decide⟩ (z2 := _) (by first | exact R31_0 | exact bi_R _) (w_enroll_x1 hT (c_X11_enroll_b2 hT hI.1 (by first | assumption | omega | (constructor <;> omega)) (by first | assumption | omega | (constructor <;> omega)) (by first | assumption | omega | (constructor <;> omega)))) (fun x e kk _ => by rw [e]) (fun X1 h1 hT1 hM1 => mu_wk (c_X12_enroll_b2 hT1 hI.1.1 hM1 (by first | assumption | omega | (constructor <;> omega)) (by first | assumption | omega | (constructor <;> omega)) (by first | assumption | omega | (constructor <;> omega))) (e_x hM1))
  · skip
    exact pair_no hT hI ⟨by decide, by decide⟩ (z2 := _) (by first | exact R31_0 | exact bi_R _) (w_enroll_x1 hT (c_X11_enroll_b1 hT hI.1 (by first | assumption | omega | (constructor <;> omega)) (by first | assumption | omega | (constructor <;> omega)) (by first | assumption | omega | (constructor <;> omega)))) (fun x e kk _ => by rw [e]) (fun X1 h1 hT1 hM1 => mu_wk (c_X12_enroll_b1 hT1 hI.1.1 hM1 (by first | assumption | omega | (constructor <;> omega)) (by first | assumption | omega | (constructor <;> omega)) (by first | assumption | omega | (constructor <;> omega))) (e_x hM1))
set_option maxHeartbeats 2000000 in
theorem pr_swap {g : Gt} {α : AL} {ν : Nat → Nat → Bool} {X : XM} {h : AH} {k : Int} (hT : TR g α ν X h) (hI : INV k ν X) {a0 : Int} (ha0 : R31 a0) {a1 : Int} (ha1 : R31 a1) {a2 : Int} (ha2 : R31 a2) : PAIR g α ν X h k TZ M_L_swap M_X12_swap [.int (J a0), .int (J a1), .int (J a2)] := by
  have qc := wo_nC hI.1.1
  have qs := wo_nS hI.1.1
  have qf := wo_nF hI.1.1
  have qr := wo_nR hI.1.1
  have qd := wo_day hI.1.1
  by_cases hn0 : 0 ≤ a0 ∧ a0 < nS X
  · skip
    obtain ⟨s, rfl⟩ : ∃ z : Nat, a0 = (z : Int) := ⟨a0.toNat, by omega⟩
    have hs0 : (s : Int) < nS X := by omega
    by_cases hn1 : 0 ≤ a1 ∧ a1 < nC X
    · skip
      obtain ⟨c, rfl⟩ : ∃ z : Nat, a1 = (z : Int) := ⟨a1.toNat, by omega⟩
      have hc0 : (c : Int) < nC X := by omega
      by_cases hn2 : 0 ≤ a2 ∧ a2 < nC X
      · skip
        obtain ⟨t, rfl⟩ : ∃ z : Nat, a2 = (z : Int) := ⟨a2.toNat, by omega⟩
        have ht0 : (t : Int) < nC X := by omega
        by_cases hd : 5 < X 0 0 5
        · skip
          exact pair_no hT hI ⟨by decide, by decide⟩ (z2 := _) (by first | exact R31_0 | exact bi_R _) (w_swap_x2 hT (c_X11_swap_x2 hT hI.1 (by first | assumption | omega | (constructor <;> omega)) (by first | assumption | omega | (constructor <;> omega)) (by first | assumption | omega | (constructor <;> omega)) (by first | assumption | omega | (constructor <;> omega)))) (fun x e kk _ => by rw [e]) (fun X1 h1 hT1 hM1 => mu_wk (c_X12_swap_x2 hT1 hI.1.1 hM1 (by first | assumption | omega | (constructor <;> omega)) (by first | assumption | omega | (constructor <;> omega)) (by first | assumption | omega | (constructor <;> omega)) (by first | assumption | omega | (constructor <;> omega))) (e_x hM1))
        · skip
          by_cases htk : tak X s c = true
          · skip
            by_cases hm : c = t ∨ tak X s t = true
            · skip
              have hd : X 0 0 5 ≤ 5 := by omega
              exact pair_no hT hI ⟨by decide, by decide⟩ (z2 := _) (by first | exact R31_0 | exact bi_R _) (w_swap_x4 hT (c_X11_swap_x4 hT hI.1 (by first | assumption | omega | (constructor <;> omega)) (by first | assumption | omega | (constructor <;> omega)) (by first | assumption | omega | (constructor <;> omega)) (by first | assumption | omega | (constructor <;> omega)) (by first | assumption | omega | (constructor <;> omega)) (by first | assumption | omega | (constructor <;> omega)))) (fun x e kk _ => by rw [e]) (fun X1 h1 hT1 hM1 => mu_wk (c_X12_swap_x4 hT1 hI.1.1 hM1 (by first | assumption | omega | (constructor <;> omega)) (by first | assumption | omega | (constructor <;> omega)) (by first | assumption | omega | (constructor <;> omega)) (by first | assumption | omega | (constructor <;> omega)) (by first | assumption | omega | (constructor <;> omega)) (by first | assumption | omega | (constructor <;> omega))) (e_x hM1))
            · skip
              have hd5 : X 0 0 5 ≤ 5 := by omega
              have hct : ¬ c = t := fun z => hm (Or.inl z)
              have htt : tak X s t = false := by
                cases q : tak X s t with
                | false => rfl
                | true => exact absurd (Or.inr q) hm
              have hk : ∀ k, k ≠ 29 → tkB X s k = X k := fun k q => tkB_k q
              have hO : WO (tkB X s) := (wx_29 hI.1 hk).1
              have hM : ∀ X1, RM X X1 → RM (tkB X s) X1 := fun X1 h1 => rmO_cg h1 (fun k q => hk k (by omega))
              have hs' : (s : Int) < nS (tkB X s) := by show (s : Int) < tkB X s 1 1 2; rw [hk 1 (by decide)]; exact hs0
              have hc' : (c : Int) < nC (tkB X s) := by show (c : Int) < tkB X s 1 0 2; rw [hk 1 (by decide)]; exact hc0
              have ht' : (t : Int) < nC (tkB X s) := by show (t : Int) < tkB X s 1 0 2; rw [hk 1 (by decide)]; exact ht0
              have hd' : tkB X s 0 0 5 ≤ 5 := by rw [hk 0 (by decide)]; exact hd5
              have etk : ∀ j, tak (tkB X s) s j = tak X s j := fun j => by unfold tak; rw [hk 5 (by decide)]
              have htk' : tak (tkB X s) s c = true := by rw [etk]; exact htk
              have htt' : tak (tkB X s) s t = false := by rw [etk]; exact htt
              by_cases hcon : mayT (eO (tkB X s) s (c : Int)) s t = true ∧ (eO (tkB X s) s (c : Int)) 9 s t < 3 ∧ 0 < free (eO (tkB X s) s (c : Int)) t ((eO (tkB X s) s (c : Int)) 4 s 0)
              · by_cases hft : fitsL (eO (tkB X s) s (c : Int)) s t = true
                · have hE : WO (eO (tkB X s) s (c : Int)) := wo_eN 20 hO hs' (Or.inr ⟨c, rfl, hc', htk'⟩)
                  have k1 : eO (tkB X s) s (c : Int) 1 = X 1 := (eO_k (by decide) (by decide) (by decide) (by decide)).trans (hk 1 (by decide))
                  have nE : (s : Int) < nS (eO (tkB X s) s (c : Int)) := by show (s : Int) < eO (tkB X s) s (c : Int) 1 1 2; rw [k1]; exact hs0
                  have cE : (t : Int) < nC (eO (tkB X s) s (c : Int)) := by show (t : Int) < eO (tkB X s) s (c : Int) 1 0 2; rw [k1]; exact ht0
                  have hS : WO (sw (eO (tkB X s) s (c : Int)) t s) := wo_sw hE cE
                  have nSw : (s : Int) < nS (sw (eO (tkB X s) s (c : Int)) t s) := by show (s : Int) < sw (eO (tkB X s) s (c : Int)) t s 1 1 2; rw [sw_l _ (by decide)]; exact nE
                  have cSw : (t : Int) < nC (sw (eO (tkB X s) s (c : Int)) t s) := by show (t : Int) < sw (eO (tkB X s) s (c : Int)) t s 1 0 2; rw [sw_l _ (by decide)]; exact cE
                  have h9 : sw (eO (tkB X s) s (c : Int)) t s 9 s t ≤ 2 := by rw [sw_k (by decide) (by decide)]; have := hcon.2.1; omega
                  have hF := wo_t1 hS nSw cSw h9
                  have hG := wo_gv hF
                  have kq : KQ X (gv (xs (sw (eO (tkB X s) s (c : Int)) t s) 5 s t 1)) := (KQ.k5 (hk 1 (by decide)) (hk 2 (by decide)) (hk 0 (by decide)) (fun kk q => hk kk (by omega)) (by rw [hk 5 (by decide)])).trans ((kq_eO hO hs' (Or.inr ⟨c, rfl, hc', htk'⟩)).trans ((kq_sw hE cE).trans ((kq_xs (by decide) (by decide) (by decide) (fun _ => by omega) (fun z => by cases z)).trans (kq_gv hF))))
                  have qn := wo_nC hG
                  have ql : 0 ≤ load (gv (xs (sw (eO (tkB X s) s (c : Int)) t s) 5 s t 1)) s ∧ load (gv (xs (sw (eO (tkB X s) s (c : Int)) t s) 5 s t 1)) s ≤ 6 * ((nC (gv (xs (sw (eO (tkB X s) s (c : Int)) t s) 5 s t 1))).toNat : Int) := crS_0 hG (tak (gv (xs (sw (eO (tkB X s) s (c : Int)) t s) 5 s t 1)) s) (nC (gv (xs (sw (eO (tkB X s) s (c : Int)) t s) 5 s t 1))).toNat (by omega)
                  exact pair_op hT hI (z := load (gv (xs (sw (eO (tkB X s) s (c : Int)) t s) 5 s t 1)) s) ⟨by omega, by omega⟩ (w_swap_ok hT ⟨by omega, by omega⟩ (fun a n x q => by rw [q.1]) (al_of_mu (c_X11_swap_ok hT hI.1 hs0 hc0 ht0 hd5 htk hct htt ⟨hcon, hft⟩))) kq (fun X1 h1 hT1 hM1 => mu_wk (c_X12_swap_ok hT1 hO (hM X1 hM1) hs' hc' ht' hd' htk' hct htt' ⟨hcon, hft⟩) (fun x q => q))
                · have hft : fitsL (eO (tkB X s) s (c : Int)) s t = false := by simpa using hft
                  exact pair_nc hT hI (r := 6) (z2 := 0) (by omega) R31_0 (w_swap_x6u hT (c_X11_swap_x6 hT hI.1 hs0 hc0 ht0 hd5 htk hct htt ⟨hcon, hft⟩)) (fun x hx => ⟨wx_29 hI.1 hx, nv_kp hI.2.1 (KP.same (hx 1 (by decide)) (hx 2 (by decide))), fun kk q => hx kk (by omega), fun c hc => by rw [hx 5 (by decide)]; exact hI.2.2.2.1 c hc, by rw [hx 0 (by decide)]; have := hI.2.2.2.2; omega, fun X1 h1 hT1 hM1 => mu_wk (c_X12_swap_x6 hT1 hO (hM X1 hM1) hs' hc' ht' hd' htk' hct htt' ⟨hcon, hft⟩) (fun X2 hq => ⟨rmO_cg hq.1 (fun k q => (hx k (by omega)).trans (hk k (by omega)).symm), hq.2⟩)⟩)
              · exact pair_nc hT hI (r := 5) (z2 := 0) (by omega) R31_0 (w_swap_x5u hT (c_X11_swap_x5 hT hI.1 hs0 hc0 ht0 hd5 htk hct htt hcon)) (fun x hx => ⟨wx_29 hI.1 hx, nv_kp hI.2.1 (KP.same (hx 1 (by decide)) (hx 2 (by decide))), fun kk q => hx kk (by omega), fun c hc => by rw [hx 5 (by decide)]; exact hI.2.2.2.1 c hc, by rw [hx 0 (by decide)]; have := hI.2.2.2.2; omega, fun X1 h1 hT1 hM1 => mu_wk (c_X12_swap_x5 hT1 hO (hM X1 hM1) hs' hc' ht' hd' htk' hct htt' hcon) (fun X2 hq => ⟨rmO_cg hq.1 (fun k q => (hx k (by omega)).trans (hk k (by omega)).symm), hq.2⟩)⟩)
          · skip
            have hd : X 0 0 5 ≤ 5 := by omega
            have htk : tak X s c = false := by simpa using htk
            exact pair_no hT hI ⟨by decide, by decide⟩ (z2 := _) (by first | exact R31_0 | exact bi_R _) (w_swap_x3 hT (c_X11_swap_x3 hT hI.1 (by first | assumption | omega | (constructor <;> omega)) (by first | assumption | omega | (constructor <;> omega)) (by first | assumption | omega | (constructor <;> omega)) (by first | assumption | omega | (constructor <;> omega)) (by first | assumption | omega | (constructor <;> omega)))) (fun x e kk _ => by rw [e]) (fun X1 h1 hT1 hM1 => mu_wk (c_X12_swap_x3 hT1 hI.1.1 hM1 (by first | assumption | omega | (constructor <;> omega)) (by first | assumption | omega | (constructor <;> omega)) (by first | assumption | omega | (constructor <;> omega)) (by first | assumption | omega | (constructor <;> omega)) (by first | assumption | omega | (constructor <;> omega))) (e_x hM1))
      · skip
        exact pair_no hT hI ⟨by decide, by decide⟩ (z2 := _) (by first | exact R31_0 | exact bi_R _) (w_swap_x1 hT (c_X11_swap_b3 hT hI.1 (by first | assumption | omega | (constructor <;> omega)) (by first | assumption | omega | (constructor <;> omega)) (by first | assumption | omega | (constructor <;> omega)) (by first | assumption | omega | (constructor <;> omega)))) (fun x e kk _ => by rw [e]) (fun X1 h1 hT1 hM1 => mu_wk (c_X12_swap_b3 hT1 hI.1.1 hM1 (by first | assumption | omega | (constructor <;> omega)) (by first | assumption | omega | (constructor <;> omega)) (by first | assumption | omega | (constructor <;> omega)) (by first | assumption | omega | (constructor <;> omega))) (e_x hM1))
    · skip
      exact pair_no hT hI ⟨by decide, by decide⟩ (z2 := _) (by first | exact R31_0 | exact bi_R _) (w_swap_x1 hT (c_X11_swap_b2 hT hI.1 (by first | assumption | omega | (constructor <;> omega)) (by first | assumption | omega | (constructor <;> omega)) (by first | assumption | omega | (constructor <;> omega)) (by first | assumption | omega | (constructor <;> omega)))) (fun x e kk _ => by rw [e]) (fun X1 h1 hT1 hM1 => mu_wk (c_X12_swap_b2 hT1 hI.1.1 hM1 (by first | assumption | omega | (constructor <;> omega)) (by first | assumption | omega | (constructor <;> omega)) (by first | assumption | omega | (constructor <;> omega)) (by first | assumption | omega | (constructor <;> omega))) (e_x hM1))
  · skip
    exact pair_no hT hI ⟨by decide, by decide⟩ (z2 := _) (by first | exact R31_0 | exact bi_R _) (w_swap_x1 hT (c_X11_swap_b1 hT hI.1 (by first | assumption | omega | (constructor <;> omega)) (by first | assumption | omega | (constructor <;> omega)) (by first | assumption | omega | (constructor <;> omega)) (by first | assumption | omega | (constructor <;> omega)))) (fun x e kk _ => by rw [e]) (fun X1 h1 hT1 hM1 => mu_wk (c_X12_swap_b1 hT1 hI.1.1 hM1 (by first | assumption | omega | (constructor <;> omega)) (by first | assumption | omega | (constructor <;> omega)) (by first | assumption | omega | (constructor <;> omega)) (by first | assumption | omega | (constructor <;> omega))) (e_x hM1))
set_option maxHeartbeats 2000000 in
theorem pr_termsTo {g : Gt} {α : AL} {ν : Nat → Nat → Bool} {X : XM} {h : AH} {k : Int} (hT : TR g α ν X h) (hI : INV k ν X) {a0 : Int} (ha0 : R31 a0) : PAIR g α ν X h k TZ M_L_termsTo M_X12_termsTo [.int (J a0)] := by
  have qc := wo_nC hI.1.1
  have qs := wo_nS hI.1.1
  have qf := wo_nF hI.1.1
  have qr := wo_nR hI.1.1
  have qd := wo_day hI.1.1
  by_cases hn0 : 0 ≤ a0 ∧ a0 < nC X
  · skip
    obtain ⟨c, rfl⟩ : ∃ z : Nat, a0 = (z : Int) := ⟨a0.toNat, by omega⟩
    have hc0 : (c : Int) < nC X := by omega
    have qt := tt_R X c 20
    by_cases hb : tt X c 20 = -1
    · exact pair_nc hT hI (r := 2) (z2 := 0) (by omega) R31_0 (w_termsTo_x2u hT (c_X11_termsTo_x2 hT hI.1 hc0 hI.2.2.2.1 hb)) (fun x hx => by
        obtain ⟨tm, hx⟩ := hx
        have k := nw_keep hI hx
        exact ⟨k.1, k.2.1, k.2.2.1, k.2.2.2.1, k.2.2.2.2, fun X1 h1 hT1 hM1 => mu_wk (c_X12_termsTo_x2 hT1 hI.1.1 hM1 hc0 hb) (fun X2 e => ⟨rm_nw hI.1.1 hx (e_z hM1 X2 e).1, (e_z hM1 X2 e).2⟩)⟩)
    · refine pair_ch (dm := 27) hT hI (z := tt X c 20) ⟨by omega, by omega⟩ (by decide) (by decide) (w_termsTo_ok hT ⟨by omega, by omega⟩ (fun a n x q => by rw [q.1]) (al_of_mu (c_X11_termsTo_ok hT hI.1 hc0 hI.2.2.2.1 hb))) (fun a n x hp => ?_)
      obtain ⟨rfl, rfl, tm, hx⟩ := hp
      have k := nw_keep hI hx
      exact ⟨FIX.rf _, k.1, k.2.1, k.2.2.1, k.2.2.2.1, k.2.2.2.2, fun X1 h1 hT1 hM1 => mu_wk (c_X12_termsTo_ok hT1 hI.1.1 hM1 hc0 hb) (fun X2 e => ⟨rm_nw hI.1.1 hx (e_z hM1 X2 e).1, (e_z hM1 X2 e).2⟩)⟩
  · skip
    exact pair_no hT hI ⟨by decide, by decide⟩ (z2 := _) (by first | exact R31_0 | exact bi_R _) (w_termsTo_x1 hT (c_X11_termsTo_b1 hT hI.1 (by first | assumption | omega | (constructor <;> omega)) (by first | assumption | omega | (constructor <;> omega)))) (fun x e kk _ => by rw [e]) (fun X1 h1 hT1 hM1 => mu_wk (c_X12_termsTo_b1 hT1 hI.1.1 hM1 (by first | assumption | omega | (constructor <;> omega)) (by first | assumption | omega | (constructor <;> omega))) (e_x hM1))
set_option maxHeartbeats 2000000 in
theorem pr_transcriptAt {g : Gt} {α : AL} {ν : Nat → Nat → Bool} {X : XM} {h : AH} {k : Int} (hT : TR g α ν X h) (hI : INV k ν X) {a0 : Int} (ha0 : R31 a0) {a1 : Int} (ha1 : R31 a1) : PAIR g α ν X h k TZ M_L_transcriptAt M_X12_transcriptAt [.int (J a0), .int (J a1)] := by
  have qc := wo_nC hI.1.1
  have qs := wo_nS hI.1.1
  have qf := wo_nF hI.1.1
  have qr := wo_nR hI.1.1
  have qd := wo_day hI.1.1
  by_cases hn0 : 0 ≤ a0 ∧ a0 < nS X
  · skip
    obtain ⟨s, rfl⟩ : ∃ z : Nat, a0 = (z : Int) := ⟨a0.toNat, by omega⟩
    have hs0 : (s : Int) < nS X := by omega
    by_cases hi : 0 ≤ a1 ∧ a1 < ((allL X s (nC X).toNat).length : Int)
    · skip
      obtain ⟨i, rfl⟩ : ∃ z : Nat, a1 = (z : Int) := ⟨a1.toNat, by omega⟩
      have hi : i < (allL X s (nC X).toNat).length := by omega
      have ql := allL_R hI.1.1 hs0 (c := 0) rfl hi
      exact pair_as hT hI (⟨by omega, by omega⟩) (w_transcriptAt_ok hT (⟨by omega, by omega⟩) (fun a n x q => by rw [q.1]) (al_of_mu (c_X11_transcriptAt_ok hT hI.1 (by first | assumption | omega | (constructor <;> omega)) (by first | assumption | omega | (constructor <;> omega))))) (fun x e kk q => e.1 kk (by omega) (by omega)) (fun X1 h1 hT1 hM1 => mu_wk (c_X12_transcriptAt_ok hT1 hI.1.1 hM1 (by first | assumption | omega | (constructor <;> omega)) (by first | assumption | omega | (constructor <;> omega))) (fun x q => q))
    · skip
      exact pair_no hT hI ⟨by decide, by decide⟩ (z2 := _) (by first | exact R31_0 | exact bi_R _) (w_transcriptAt_x1u hT (c_X11_transcriptAt_x1 hT hI.1 (by first | assumption | omega | (constructor <;> omega)) (by first | assumption | omega | (constructor <;> omega)) (by first | assumption | omega | (constructor <;> omega)))) (fun x e kk q => e.1 kk (by omega) (by omega)) (fun X1 h1 hT1 hM1 => mu_wk (c_X12_transcriptAt_x1 hT1 hI.1.1 hM1 (by first | assumption | omega | (constructor <;> omega)) (by first | assumption | omega | (constructor <;> omega)) (by first | assumption | omega | (constructor <;> omega))) (fun x q => q))
  · skip
    exact pair_no hT hI ⟨by decide, by decide⟩ (z2 := _) (by first | exact R31_0 | exact bi_R _) (w_transcriptAt_x1 hT (c_X11_transcriptAt_b1 hT hI.1 (by first | assumption | omega | (constructor <;> omega)) (by first | assumption | omega | (constructor <;> omega)) (by first | assumption | omega | (constructor <;> omega)))) (fun x e kk _ => by rw [e]) (fun X1 h1 hT1 hM1 => mu_wk (c_X12_transcriptAt_b1 hT1 hI.1.1 hM1 (by first | assumption | omega | (constructor <;> omega)) (by first | assumption | omega | (constructor <;> omega)) (by first | assumption | omega | (constructor <;> omega))) (fun x q => q))
set_option maxHeartbeats 2000000 in
theorem pr_ruleFor {g : Gt} {α : AL} {ν : Nat → Nat → Bool} {X : XM} {h : AH} {k : Int} (hT : TR g α ν X h) (hI : INV k ν X) {a0 : Int} (ha0 : R31 a0) {a1 : Int} (ha1 : R31 a1) : PAIR g α ν X h k TZ M_L_ruleFor M_X12_ruleFor [.int (J a0), .int (J a1)] := by
  have qc := wo_nC hI.1.1
  have qs := wo_nS hI.1.1
  have qf := wo_nF hI.1.1
  have qr := wo_nR hI.1.1
  have qd := wo_day hI.1.1
  by_cases hn0 : 0 ≤ a0 ∧ a0 < nS X
  · skip
    obtain ⟨s, rfl⟩ : ∃ z : Nat, a0 = (z : Int) := ⟨a0.toNat, by omega⟩
    have hs0 : (s : Int) < nS X := by omega
    by_cases hn1 : 0 ≤ a1 ∧ a1 < nC X
    · skip
      obtain ⟨c, rfl⟩ : ∃ z : Nat, a1 = (z : Int) := ⟨a1.toNat, by omega⟩
      have hc0 : (c : Int) < nC X := by omega
      rcases givV_p hI.1.1 s c with hg | ⟨r, hg, hr, -⟩
      · skip
        exact pair_no hT hI ⟨by decide, by decide⟩ (z2 := _) (by first | exact R31_0 | exact bi_R _) (w_ruleFor_x2u hT (c_X11_ruleFor_x2 hT hI.1 (by first | assumption | omega | (constructor <;> omega)) (by first | assumption | omega | (constructor <;> omega)) (by first | assumption | omega | (constructor <;> omega)))) (fun x e kk q => e kk (by omega)) (fun X1 h1 hT1 hM1 => mu_wk (c_X12_ruleFor_x2 hT1 hI.1.1 hM1 (by first | assumption | omega | (constructor <;> omega)) (by first | assumption | omega | (constructor <;> omega)) (by first | assumption | omega | (constructor <;> omega))) (fun x q => q))
      · skip
        have ql := (itR_p hI.1.1 hr).1
        exact pair_as hT hI (⟨by omega, by omega⟩) (w_ruleFor_ok hT (⟨by omega, by omega⟩) (fun a n x q => by rw [q.1]) (al_of_mu (c_X11_ruleFor_ok hT hI.1 (by first | assumption | omega | (constructor <;> omega)) (by first | assumption | omega | (constructor <;> omega)) hg hr))) (fun x e kk q => e kk (by omega)) (fun X1 h1 hT1 hM1 => mu_wk (c_X12_ruleFor_ok hT1 hI.1.1 hM1 (by first | assumption | omega | (constructor <;> omega)) (by first | assumption | omega | (constructor <;> omega)) hg hr) (fun x q => q))
    · skip
      exact pair_no hT hI ⟨by decide, by decide⟩ (z2 := _) (by first | exact R31_0 | exact bi_R _) (w_ruleFor_x1 hT (c_X11_ruleFor_b2 hT hI.1 (by first | assumption | omega | (constructor <;> omega)) (by first | assumption | omega | (constructor <;> omega)) (by first | assumption | omega | (constructor <;> omega)))) (fun x e kk _ => by rw [e]) (fun X1 h1 hT1 hM1 => mu_wk (c_X12_ruleFor_b2 hT1 hI.1.1 hM1 (by first | assumption | omega | (constructor <;> omega)) (by first | assumption | omega | (constructor <;> omega)) (by first | assumption | omega | (constructor <;> omega))) (e_x hM1))
  · skip
    exact pair_no hT hI ⟨by decide, by decide⟩ (z2 := _) (by first | exact R31_0 | exact bi_R _) (w_ruleFor_x1 hT (c_X11_ruleFor_b1 hT hI.1 (by first | assumption | omega | (constructor <;> omega)) (by first | assumption | omega | (constructor <;> omega)) (by first | assumption | omega | (constructor <;> omega)))) (fun x e kk _ => by rw [e]) (fun X1 h1 hT1 hM1 => mu_wk (c_X12_ruleFor_b1 hT1 hI.1.1 hM1 (by first | assumption | omega | (constructor <;> omega)) (by first | assumption | omega | (constructor <;> omega)) (by first | assumption | omega | (constructor <;> omega))) (e_x hM1))
set_option maxHeartbeats 2000000 in
theorem pr_endTerm {g : Gt} {α : AL} {ν : Nat → Nat → Bool} {X : XM} {h : AH} {k : Int} (hT : TR g α ν X h) (hI : INV k ν X) (hk : k ≤ 999999) : PAIR g α ν X h k TZ M_L_endTerm M_X12_endTerm [] := by
  have qs := wo_nS hI.1.1
  have qd := wo_day hI.1.1
  by_cases hd : X 0 0 5 < 21
  · skip
    exact pair_no hT hI ⟨by decide, by decide⟩ (z2 := _) (by first | exact R31_0 | exact bi_R _) (w_endTerm_x1 hT (c_X11_endTerm_x1 hT hI.1 (by first | assumption | omega | (constructor <;> omega)))) (fun x e kk _ => by rw [e]) (fun X1 h1 hT1 hM1 => mu_wk (c_X12_endTerm_x1 hT1 hI.1.1 hM1 (by first | assumption | omega | (constructor <;> omega))) (e_x hM1))
  · skip
    have hd : 20 < X 0 0 5 := by omega
    have qk := caN_R X (nS X).toNat
    have hk6 := hI.2.2.2.2
    refine pair_ch (dm := 27) hT hI (z := caN X (nS X).toNat) ⟨by omega, by omega⟩ (by decide) (by decide) (w_endTerm_ok hT ⟨by omega, by omega⟩ (fun a n x q => by rw [q.1]) (al_of_mu (c_X11_endTerm_ok hT hI.1 hd (by omega)))) (fun a n x hp => ?_)
    obtain ⟨rfl, rfl, rfl, hw2⟩ := hp
    have k0 : ∀ kk, kk ≠ 0 → etO X kk = ctA X (nS X).toNat kk := fun kk q => by unfold etO; rw [xs_nk q, xs_nk q]
    have k1 : ∀ kk, (kk = 1 ∨ kk = 2 ∨ 31 ≤ kk) → etO X kk = X kk := fun kk q => (k0 kk (by omega)).trans (ctA_k (by omega) (by omega) (by omega) (by omega) (by omega) _)
    refine ⟨FIX.rf _, hw2, nv_kp hI.2.1 (KP.same (k1 1 (by omega)) (k1 2 (by omega))), fun kk q => k1 kk (by omega), fun c hc => ?_, ?_, fun X1 h1 hT1 hM1 => c_X12_endTerm_ok hT1 hI.1.1 hM1 hd⟩
    · rw [k0 5 (by decide), ctA_o X _ (by omega)]; exact hI.2.2.2.1 c hc
    · unfold etO
      rw [xs_at, if_pos rfl]
      omega
