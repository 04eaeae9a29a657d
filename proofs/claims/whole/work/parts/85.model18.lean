/-! THE REFERENCE: the rule of a course; whether all is sound -/
theorem givV_p {O : XM} (hO : WO O) (s c : Nat) : (givV O s c = -1) ∨ ∃ r : Nat, givV O s c = (r : Int) ∧ r < nsl O s ∧ gP (nsl O s) (ftR O s false) (ndR O s) 20 (mstV O s false) c (gflV O s c) r := by
  unfold givV
  rcases gsl_p (m := nsl O s) (fit := ftR O s false) (nd := ndR O s) (n := 20) (v := mstV O s false) (c := c) (fill := gflV O s c) (nsl O s) with ⟨e, -⟩ | ⟨r, e, h1, h2, -⟩
  · exact Or.inl e
  · exact Or.inr ⟨r, e, h1, h2⟩
theorem gflV_R {O : XM} (hO : WO O) (s c : Nat) : gflV O s c < 256 ∧ (∀ k, k < nsl O s → (dg (gflV O s c) k : Int) ≤ ndR O s k) ∧ ∀ k, nsl O s ≤ k → k < 4 → dg (gflV O s c) k = 0 := gfl_R (nsl_4 hO s) (fun k hk => ⟨by have := ndR_R hO hk; omega, (ndR_R hO hk).2⟩) c
theorem gflV_s {O : XM} {s c : Nat} : gflV O s (c + 1) = if givV O s c = -1 then gflV O s c else up1 (gflV O s c) (givV O s c).toNat := rfl
abbrev GZV (O : XM) (s c k : Nat) (z : Int) : Prop := GZ (nsl O s) (ftR O s false) (ndR O s) 20 (mstV O s false) c (gflV O s c) k z
abbrev gPV (O : XM) (s c k : Nat) : Prop := gP (nsl O s) (ftR O s false) (ndR O s) 20 (mstV O s false) c (gflV O s c) k
theorem GZV_end {O : XM} {s c : Nat} {z : Int} (h : GZV O s c 0 z) : z = givV O s c := GZ_eq h GZ_gsl
theorem GZV_R {O : XM} (hO : WO O) {s c k : Nat} {z : Int} (h : GZV O s c k z) : -1 ≤ z ∧ z < 4 := by
  have := nsl_4 hO s
  rcases h with ⟨e, -⟩ | ⟨r, e, -, h1, -⟩ <;> omega
set_option maxRecDepth 100000 in
set_option maxHeartbeats 4000000 in
theorem c_X12_givenTo {g : Gt} {α : AL} {ν : Nat → Nat → Bool} {X : XM} {h : AH} (hT : TR g α ν X h) {O : XM} (hO : WO O) (hM : RM O X) {s : Nat} (hs : (s : Int) < nS O) {c0 : Nat} (hc0 : (c0 : Int) < nC O) : Mu g α ν M_X12_givenTo 6 [.ref (α 40 0), .int (J (s : Int)), .int (J (c0 : Int))] h (some (.int (J (givV O s c0)))) (fun X' => LO X X' ∧ LKr O X' s false (ndR O s)) := by
  refine mu_of rfl rfl (ls := [some (.ref (α 40 0)), some (.int (J (s : Int))), some (.int (J (c0 : Int))), none, none, none, none, none, none]) rfl (Nat.le_of_ble_eq_true rfl) ?_
  show Ev g M_X12_givenTo 6 0 [some (.ref (α 40 0)), some (.int (J (s : Int))), some (.int (J (c0 : Int))), none, none, none, none, none, none] [] h 0 0 (UQ g α ν (some (.int (J (givV O s c0)))) (fun X' => LO X X' ∧ LKr O X' s false (ndR O s)))
  have q0 := rm_nC hM
  have q1 := wo_nC hO
  have q2 := rm_nS hM
  have q3 := wo_nS hO
  have qn := nsl_4 hO s
  have qV := mstV_R hO s false
  have hnd3 := fun k (hk : k < nsl O s) => (ndR_R hO hk).2
  refine ev_ald0 1 dX12_givenTo_0 rfl ?_
  refine ev_ild1 2 dX12_givenTo_1 rfl ?_
  refine tj_iconst 3 dX12_givenTo_2 rfl ?_
  refine tm_V2 6 14 dX12_givenTo_3 lkv_X12_290 (tr40 hT) rfl rfl (by first | decide | omega) (Nat.le_of_ble_eq_true rfl) (c_X12_mostOf (b := false) hT hO hM hs) (fun h X1 hT hP3 => ?_)
  refine ev_ist3 7 dX12_givenTo_6 rfl (by decide) rfl ?_
  refine tj_iconst 8 dX12_givenTo_7 rfl ?_
  refine ev_ist4 10 dX12_givenTo_8 rfl (by decide) rfl ?_
  refine tj_iconst 11 dX12_givenTo_10 rfl ?_
  refine ev_ist5 13 dX12_givenTo_11 rfl (by decide) rfl ?_
  refine tj_iconst 14 dX12_givenTo_13 rfl ?_
  refine ev_ist6 16 dX12_givenTo_14 rfl (by decide) rfl ?_
  have lp16 : ∀ (n16 : Nat) (c : Nat) (z : Int) (z4 : Int) (z5 : Int) (z6 : Int) (o7 o8 : Option Value) (h : AH) (X2 : XM), c0 + 2 - c < n16 → (c ≤ c0 + 1) → ((c = 0 ∧ z = -1) ∨ ∃ c1, c = c1 + 1 ∧ z = givV O s c1) → z4 = (gflV O s c : Int) → z5 = z → z6 = (c : Int) → TR g α ν X2 h → (LO X X2 ∧ LKr O X2 s false (ndR O s)) → Ev g M_X12_givenTo 6 16 [some (.ref (α 40 0)), some (.int (J (s : Int))), some (.int (J (c0 : Int))), some (.int (J (mstV O s false))), some (.int (J z4)), some (.int (J z5)), some (.int (J z6)), o7, o8] [] h 0 0 (UQ g α ν (some (.int (J (givV O s c0)))) (fun X' => LO X X' ∧ LKr O X' s false (ndR O s))) := by
    intro n16
    induction n16 with
    | zero => intro c z z4 z5 z6 o7 o8 h X2 hm; exact absurd hm (Nat.not_lt_zero _)
    | succ n16 ih16 =>
      intro c z z4 z5 z6 o7 o8 h X2 hm16 hc9 hz e4 e5 e6 hT hI
      subst e4
      subst e5
      subst e6
      obtain ⟨hF2, hL2⟩ := hI
      have hM2 := hF2.rm hM
      have l1 := hL2.1
      have gR := gflV_R hO s c
      refine ev_ild6 18 dX12_givenTo_16 rfl ?_
      refine ev_ild2 19 dX12_givenTo_18 rfl ?_
      refine tj_icmp_gt 126 22 dX12_givenTo_19 (by decide) rfl (by first | exact TR.rng hT _ _ _ | exact R31_of _ | exact bi_R _ | (constructor <;> omega)) (by first | exact TR.rng hT _ _ _ | exact R31_of _ | exact bi_R _ | (constructor <;> omega)) (fun c19 => ?_) (fun c19 => ?_)
      · skip
        refine ev_ild5 128 dX12_givenTo_126 rfl ?_
        exact ev_ireturn (uq_i (by first | rfl | omega | exact bi_dt (by omega) | exact bi_df (by omega) | (rcases hz with ⟨e, -⟩ | ⟨c1, e, e2⟩; omega; rw [e2, show c1 = c0 by omega])) hT (by exact ⟨hF2, hL2⟩)) rfl dX12_givenTo_128
      · skip
        refine tj_iconst 23 dX12_givenTo_22 rfl ?_
        refine ev_ist5 25 dX12_givenTo_23 rfl (by decide) rfl ?_
        refine ev_ald0 26 dX12_givenTo_25 rfl ?_
        refine ev_getfield 29 14 35 fl_X12_271_14 (tr40 hT) rfl dX12_givenTo_26 rfl ?_
        refine tj_iconst 30 dX12_givenTo_29 rfl ?_
        refine tj_isub 31 dX12_givenTo_30 rfl ?_
        refine ev_ist7 33 dX12_givenTo_31 rfl (by decide) rfl ?_
        have lp33 : ∀ (n33 : Nat) (k : Nat) (y : Int) (z5 : Int) (z7 : Int) (o8 : Option Value) (h : AH) (X3 : XM), k < n33 → (k ≤ nsl O s) → (GZV O s c k y) → z5 = y → z7 = (k : Int) - 1 → TR g α ν X3 h → (LO X X3 ∧ LKr O X3 s false (ndR O s)) → Ev g M_X12_givenTo 6 33 [some (.ref (α 40 0)), some (.int (J (s : Int))), some (.int (J (c0 : Int))), some (.int (J (mstV O s false))), some (.int (J (gflV O s c : Int))), some (.int (J z5)), some (.int (J (c : Int))), some (.int (J z7)), o8] [] h 0 0 (UQ g α ν (some (.int (J (givV O s c0)))) (fun X' => LO X X' ∧ LKr O X' s false (ndR O s))) := by
          intro n33
          induction n33 with
          | zero => intro k y z5 z7 o8 h X3 hm; exact absurd hm (Nat.not_lt_zero _)
          | succ n33 ih33 =>
            intro k y z5 z7 o8 h X3 hm33 hk hy e5 e7 hT hI
            subst e5
            subst e7
            obtain ⟨hF3, hL3⟩ := hI
            have hM3 := hF3.rm hM
            have l13 := hL3.1
            have q03 := rm_nC hM3
            have yR := GZV_R hO hy
            refine ev_ild7 35 dX12_givenTo_33 rfl ?_
            refine tj_if_lt 99 38 dX12_givenTo_35 (by decide) rfl (by first | exact TR.rng hT _ _ _ | exact R31_of _ | exact bi_R _ | (constructor <;> omega)) (fun c35 => ?_) (fun c35 => ?_)
            · skip
              obtain rfl : k = 0 := by omega
              refine ev_ild4 101 dX12_givenTo_99 rfl ?_
              refine ev_ild5 103 dX12_givenTo_101 rfl ?_
              refine tj_iconst 104 dX12_givenTo_103 rfl ?_
              refine tj_icmp_ne 111 107 dX12_givenTo_104 (by decide) rfl (by first | exact TR.rng hT _ _ _ | exact R31_of _ | exact bi_R _ | (constructor <;> omega)) (by first | exact TR.rng hT _ _ _ | exact R31_of _ | exact bi_R _ | (constructor <;> omega)) (fun c104 => ?_) (fun c104 => ?_)
              · skip
                obtain ⟨r, hr, hrm⟩ : ∃ r : Nat, z5 = (r : Int) ∧ r < nsl O s := by rcases hy with ⟨e, -⟩ | ⟨r, e, -, h1, -⟩; exact absurd e c104; exact ⟨r, e, h1⟩
                have hgr : givV O s c = (r : Int) := (GZV_end hy).symm.trans hr
                have hnew : (gflV O s c : Int) + ((1 <<< (2 * r) : Nat) : Int) = (gflV O s (c + 1) : Int) := by rw [gflV_s, if_neg (by omega), hgr, Int.toNat_natCast]; unfold up1; omega
                rw [hr]
                refine tj_iconst 112 dX12_givenTo_111 rfl ?_
                refine tj_iconst 113 dX12_givenTo_112 rfl ?_
                refine ev_ild5 115 dX12_givenTo_113 rfl ?_
                refine tj_imul 116 dX12_givenTo_115 rfl ?_
                refine tj_ishl 117 dX12_givenTo_116 1 (2 * r) rfl (by omega) (by omega) rfl ?_
                refine tj_iadd 118 dX12_givenTo_117 rfl ?_
                refine ev_ist4 120 dX12_givenTo_118 rfl (by decide) rfl ?_
                refine tj_inc6 123 dX12_givenTo_120 rfl (by decide) rfl ?_
                refine ev_goto 16 dX12_givenTo_123 (by decide) ?_
                exact ih16 (c + 1) (z5) _ _ _ _ _ _ _ (by omega) (by first | omega | assumption | first | exact Or.inl ⟨rfl, rfl⟩ | exact Or.inr ⟨c, rfl, GZV_end hy⟩) (by first | omega | assumption | first | exact Or.inl ⟨rfl, rfl⟩ | exact Or.inr ⟨c, rfl, GZV_end hy⟩) (by first | rfl | omega | (first | rfl | exact hnew)) (by first | rfl | omega | (first | rfl | exact hnew)) (by first | rfl | omega | (first | rfl | exact hnew)) hT (by first | assumption | (first | exact hP3 | exact ⟨hF3, hL3⟩))
              · skip
                have hnew : (gflV O s c : Int) + 0 = (gflV O s (c + 1) : Int) := by rw [gflV_s, if_pos (by rw [← GZV_end hy]; exact c104)]; omega
                refine tj_iconst 108 dX12_givenTo_107 rfl ?_
                refine ev_goto 117 dX12_givenTo_108 (by decide) ?_
                refine tj_iadd 118 dX12_givenTo_117 rfl ?_
                refine ev_ist4 120 dX12_givenTo_118 rfl (by decide) rfl ?_
                refine tj_inc6 123 dX12_givenTo_120 rfl (by decide) rfl ?_
                refine ev_goto 16 dX12_givenTo_123 (by decide) ?_
                exact ih16 (c + 1) (z5) _ _ _ _ _ _ _ (by omega) (by first | omega | assumption | first | exact Or.inl ⟨rfl, rfl⟩ | exact Or.inr ⟨c, rfl, GZV_end hy⟩) (by first | omega | assumption | first | exact Or.inl ⟨rfl, rfl⟩ | exact Or.inr ⟨c, rfl, GZV_end hy⟩) (by first | rfl | omega | (first | rfl | exact hnew)) (by first | rfl | omega | (first | rfl | exact hnew)) (by first | rfl | omega | (first | rfl | exact hnew)) hT (by first | assumption | (first | exact hP3 | exact ⟨hF3, hL3⟩))
            · skip
              obtain ⟨k2, rfl⟩ : ∃ k2, k = k2 + 1 := ⟨k - 1, by omega⟩
              rw [show ((k2 + 1 : Nat) : Int) - 1 = (k2 : Int) by omega]
              have hkk : k2 < nsl O s := by omega
              have hcc : (c : Int) < nC O := by omega
              refine ev_ald0 39 dX12_givenTo_38 rfl ?_
              refine ev_ild4 41 dX12_givenTo_39 rfl ?_
              refine ev_ild6 43 dX12_givenTo_41 rfl ?_
              refine ev_ild7 45 dX12_givenTo_43 rfl ?_
              refine tc_V3 48 14 dX12_givenTo_45 lkv_X12_280 (tr40 hT) rfl rfl (by first | decide | omega) (Nat.le_of_ble_eq_true rfl) (c_X12_canGive hT hO hM3 hs hL3 hcc gR.1 hkk (hnd3 k2 hkk)) ?_
              refine tb_if_eq 76 51 dX12_givenTo_48 (by decide) rfl (fun c48 => ?_) (fun c48 => ?_)
              · skip
                obtain ⟨y2, hy2⟩ : ∃ y2 : Int, y2 = z5 ∧ GZV O s c k2 y2 := ⟨z5, rfl, GZ_n (fun q => by rw [q.1, decide_eq_true q.2.1] at c48; cases c48) hy⟩
                refine tj_iconst 77 dX12_givenTo_76 rfl ?_
                refine ev_ist8 79 dX12_givenTo_77 rfl (by decide) rfl ?_
                refine ev_ild8 81 dX12_givenTo_79 rfl ?_
                refine tj_if_eq 89 84 dX12_givenTo_81 (by decide) rfl (by first | exact TR.rng hT _ _ _ | exact R31_of _ | exact bi_R _ | (constructor <;> omega)) (fun c81 => ?_) (fun c81 => ?_)
                · skip
                  refine ev_ild5 91 dX12_givenTo_89 rfl ?_
                  refine ev_ist5 93 dX12_givenTo_91 rfl (by decide) rfl ?_
                  refine tj_inc7 96 dX12_givenTo_93 rfl (by decide) rfl ?_
                  refine ev_goto 33 dX12_givenTo_96 (by decide) ?_
                  exact ih33 (k2) (y2) _ _ _ _ _ (by omega) (by first | omega | assumption | first | exact GZ_nil | exact hy2.2) (by first | omega | assumption | first | exact GZ_nil | exact hy2.2) (by first | rfl | omega | (first | exact hy2.1.symm | omega)) (by first | rfl | omega | (first | exact hy2.1.symm | omega)) hT (by first | assumption | (first | exact ⟨hF2, hL2⟩ | exact ⟨hF3, hL3⟩ | exact ⟨hF3.s78 hP65, LKr_cg hL3 hP65⟩))
                · exact False.elim (by omega)
              · skip
                have hcg := (Bool.and_eq_true _ _).mp c48
                have hdk := of_decide_eq_true hcg.2
                have hnk := hnd3 k2 hkk
                have hup := (dg_up gR.1 (show k2 < 4 by omega) (by omega)).1
                have hup2 : (up1 (gflV O s c) k2 : Int) = gflV O s c + ((1 <<< (2 * k2) : Nat) : Int) := by unfold up1; omega
                refine ev_ald0 52 dX12_givenTo_51 rfl ?_
                refine ev_ild4 54 dX12_givenTo_52 rfl ?_
                refine tj_iconst 55 dX12_givenTo_54 rfl ?_
                refine tj_iconst 56 dX12_givenTo_55 rfl ?_
                refine ev_ild7 58 dX12_givenTo_56 rfl ?_
                refine tj_imul 59 dX12_givenTo_58 rfl ?_
                refine tj_ishl 60 dX12_givenTo_59 1 (2 * k2) rfl (by omega) (by omega) rfl ?_
                refine tj_iadd 61 dX12_givenTo_60 rfl ?_
                rw [show (gflV O s c : Int) + ((1 <<< (2 * k2) : Nat) : Int) = (up1 (gflV O s c) k2 : Int) from hup2.symm]
                refine ev_ild6 63 dX12_givenTo_61 rfl ?_
                refine tj_iconst 64 dX12_givenTo_63 rfl ?_
                refine tj_iadd 65 dX12_givenTo_64 rfl ?_
                rw [show (c : Int) + 1 = ((c + 1 : Nat) : Int) by omega]
                refine tm_V2 68 14 dX12_givenTo_65 lkv_X12_287 (tr40 hT) rfl rfl (by first | decide | omega) (Nat.le_of_ble_eq_true rfl) (c_X12_mostFrom hT hO hM3 hs hL3 hnd3 (fl := up1 (gflV O s c) k2) (fr := c + 1) hup (by omega)) (fun h X1 hT hP65 => ?_)
                have hmx := mx_nC hO (s := s) (b := false) (rm := ndR O s) (fr := c + 1) (fl := up1 (gflV O s c) k2) (by omega)
                have hmR := mx_R (m := nsl O s) (fit := ftR O s false) (rm := ndR O s) (fr := c + 1) (fl := up1 (gflV O s c) k2) (i := (nC O).toNat - (c + 1)) qn hnd3 hup
                refine ev_ild3 69 dX12_givenTo_68 rfl ?_
                refine tj_icmp_ne 76 72 dX12_givenTo_69 (by decide) rfl (by first | exact TR.rng hT _ _ _ | exact R31_of _ | exact bi_R _ | (constructor <;> omega)) (by first | exact TR.rng hT _ _ _ | exact R31_of _ | exact bi_R _ | (constructor <;> omega)) (fun c69 => ?_) (fun c69 => ?_)
                · skip
                  obtain ⟨y2, hy2⟩ : ∃ y2 : Int, y2 = z5 ∧ GZV O s c k2 y2 := ⟨z5, rfl, GZ_n (fun q => c69 (hmx.trans q.2.2)) hy⟩
                  refine tj_iconst 77 dX12_givenTo_76 rfl ?_
                  refine ev_ist8 79 dX12_givenTo_77 rfl (by decide) rfl ?_
                  refine ev_ild8 81 dX12_givenTo_79 rfl ?_
                  refine tj_if_eq 89 84 dX12_givenTo_81 (by decide) rfl (by first | exact TR.rng hT _ _ _ | exact R31_of _ | exact bi_R _ | (constructor <;> omega)) (fun c81 => ?_) (fun c81 => ?_)
                  · skip
                    refine ev_ild5 91 dX12_givenTo_89 rfl ?_
                    refine ev_ist5 93 dX12_givenTo_91 rfl (by decide) rfl ?_
                    refine tj_inc7 96 dX12_givenTo_93 rfl (by decide) rfl ?_
                    refine ev_goto 33 dX12_givenTo_96 (by decide) ?_
                    exact ih33 (k2) (y2) _ _ _ _ _ (by omega) (by first | omega | assumption | first | exact GZ_nil | exact hy2.2) (by first | omega | assumption | first | exact GZ_nil | exact hy2.2) (by first | rfl | omega | (first | exact hy2.1.symm | omega)) (by first | rfl | omega | (first | exact hy2.1.symm | omega)) hT (by first | assumption | (first | exact ⟨hF2, hL2⟩ | exact ⟨hF3, hL3⟩ | exact ⟨hF3.s78 hP65, LKr_cg hL3 hP65⟩))
                  · exact False.elim (by omega)
                · skip
                  obtain ⟨y2, hy2⟩ : ∃ y2 : Int, y2 = (k2 : Int) ∧ GZV O s c k2 y2 := ⟨(k2 : Int), rfl, GZ_y hkk ⟨hcg.1, hdk, hmx.symm.trans c69⟩⟩
                  refine tj_iconst 73 dX12_givenTo_72 rfl ?_
                  refine ev_goto 77 dX12_givenTo_73 (by decide) ?_
                  refine ev_ist8 79 dX12_givenTo_77 rfl (by decide) rfl ?_
                  refine ev_ild8 81 dX12_givenTo_79 rfl ?_
                  refine tj_if_eq 89 84 dX12_givenTo_81 (by decide) rfl (by first | exact TR.rng hT _ _ _ | exact R31_of _ | exact bi_R _ | (constructor <;> omega)) (fun c81 => ?_) (fun c81 => ?_)
                  · exact False.elim (by omega)
                  · skip
                    refine ev_ild7 86 dX12_givenTo_84 rfl ?_
                    refine ev_goto 91 dX12_givenTo_86 (by decide) ?_
                    refine ev_ist5 93 dX12_givenTo_91 rfl (by decide) rfl ?_
                    refine tj_inc7 96 dX12_givenTo_93 rfl (by decide) rfl ?_
                    refine ev_goto 33 dX12_givenTo_96 (by decide) ?_
                    exact ih33 (k2) (y2) _ _ _ _ _ (by omega) (by first | omega | assumption | first | exact GZ_nil | exact hy2.2) (by first | omega | assumption | first | exact GZ_nil | exact hy2.2) (by first | rfl | omega | (first | exact hy2.1.symm | omega)) (by first | rfl | omega | (first | exact hy2.1.symm | omega)) hT (by first | assumption | (first | exact ⟨hF2, hL2⟩ | exact ⟨hF3, hL3⟩ | exact ⟨hF3.s78 hP65, LKr_cg hL3 hP65⟩))
        exact lp33 _ (nsl O s) (-1) _ _ _ _ _ (Nat.lt_succ_self _) (by first | omega | assumption | first | exact GZ_nil | exact hy2.2) (by first | omega | assumption | first | exact GZ_nil | exact hy2.2) (by first | rfl | omega | (first | exact hy2.1.symm | omega)) (by first | rfl | omega | (first | exact hy2.1.symm | omega)) hT (by first | assumption | (first | exact ⟨hF2, hL2⟩ | exact ⟨hF3, hL3⟩ | exact ⟨hF3.s78 hP65, LKr_cg hL3 hP65⟩))
  exact lp16 _ (0) (-1) _ _ _ _ _ _ _ (Nat.lt_succ_self _) (by first | omega | assumption | first | exact Or.inl ⟨rfl, rfl⟩ | exact Or.inr ⟨c, rfl, GZV_end hy⟩) (by first | omega | assumption | first | exact Or.inl ⟨rfl, rfl⟩ | exact Or.inr ⟨c, rfl, GZV_end hy⟩) (by first | rfl | omega | (first | rfl | exact hnew)) (by first | rfl | omega | (first | rfl | exact hnew)) (by first | rfl | omega | (first | rfl | exact hnew)) hT (by first | assumption | (first | exact hP3 | exact ⟨hF3, hL3⟩))
set_option maxRecDepth 100000 in
set_option maxHeartbeats 4000000 in
theorem c_X12_ruleFor_b1 {g : Gt} {α : AL} {ν : Nat → Nat → Bool} {X : XM} {h : AH} (hT : TR g α ν X h) {O : XM} (hO : WO O) (hM : RM O X) {b : Int} (hb : R31 b) (hn : ¬ (0 ≤ b ∧ b < nS O)) {a1 : Int} (ha1 : R31 a1) : Mu g α ν M_X12_ruleFor 27 [.ref (α 40 0), .int (J b), .int (J a1)] h (some (.int (J (0)))) (fun X' => X' = xs X 40 0 0 1) := by
  refine mu_of rfl rfl (ls := [some (.ref (α 40 0)), some (.int (J b)), some (.int (J a1)), none, none]) rfl (Nat.le_of_ble_eq_true rfl) ?_
  show Ev g M_X12_ruleFor 27 0 [some (.ref (α 40 0)), some (.int (J b)), some (.int (J a1)), none, none] [] h 0 0 (UQ g α ν (some (.int (J (0)))) (fun X' => X' = xs X 40 0 0 1))
  have q0 := rm_nC hM
  have q1 := wo_nC hO
  have q2 := rm_nS hM
  have q3 := wo_nS hO
  refine ev_ald0 1 dX12_ruleFor_0 rfl ?_
  refine ev_ild1 2 dX12_ruleFor_1 rfl ?_
  refine tc_V1 5 14 dX12_ruleFor_2 lkv_X12_158 (tr40 hT) rfl rfl (by first | decide | omega) (Nat.le_of_ble_eq_true rfl) (isStudent_no hT hO hM hb hn) ?_
  refine tj_if_eq 20 8 dX12_ruleFor_5 (by decide) rfl (by first | exact TR.rng hT _ _ _ | exact R31_of _ | exact bi_R _ | (constructor <;> omega)) (fun c5 => ?_) (fun c5 => ?_)
  · skip
    refine tj_iconst 21 dX12_ruleFor_20 rfl ?_
    refine ev_ist3 22 dX12_ruleFor_21 rfl (by decide) rfl ?_
    refine ev_ild3 23 dX12_ruleFor_22 rfl ?_
    refine tj_if_eq 35 26 dX12_ruleFor_23 (by decide) rfl (by first | exact TR.rng hT _ _ _ | exact R31_of _ | exact bi_R _ | (constructor <;> omega)) (fun c23 => ?_) (fun c23 => ?_)
    · skip
      refine tj_iconst 36 dX12_ruleFor_35 rfl ?_
      refine ev_ist4 38 dX12_ruleFor_36 rfl (by decide) rfl ?_
      refine ev_ald0 39 dX12_ruleFor_38 rfl ?_
      refine ev_ild3 40 dX12_ruleFor_39 rfl ?_
      refine tj_if_ne 47 43 dX12_ruleFor_40 (by decide) rfl (by first | exact TR.rng hT _ _ _ | exact R31_of _ | exact bi_R _ | (constructor <;> omega)) (fun c40 => ?_) (fun c40 => ?_)
      · exact False.elim (by omega)
      · skip
        refine tj_iconst 44 dX12_ruleFor_43 rfl ?_
        refine ev_goto 58 dX12_ruleFor_44 (by decide) ?_
        refine tm_V1 61 14 dX12_ruleFor_58 lkv_X12_144 (tr40 hT) rfl rfl (by first | decide | omega) (Nat.le_of_ble_eq_true rfl) (goes_n hT (by omega)) (fun h X1 hT hP58 => ?_)
        have hM1 := hM
        have hM : RM O X1 := by rw [hP58]; exact rm_th hM1 _
        have q0 := rm_nC hM
        have q2 := rm_nS hM
        refine tj_if_eq 74 64 dX12_ruleFor_61 (by decide) rfl (by first | exact TR.rng hT _ _ _ | exact R31_of _ | exact bi_R _ | (constructor <;> omega)) (fun c61 => ?_) (fun c61 => ?_)
        · skip
          refine tj_iconst 75 dX12_ruleFor_74 rfl ?_
          exact ev_ireturn (uq_i (by first | rfl | omega | exact bi_dt (by omega) | exact bi_df (by omega) | (skip)) hT (by assumption)) rfl dX12_ruleFor_75
        · exact False.elim (by omega)
    · exact False.elim (by omega)
  · exact False.elim (by omega)
set_option maxRecDepth 100000 in
set_option maxHeartbeats 4000000 in
theorem c_X12_ruleFor_b2 {g : Gt} {α : AL} {ν : Nat → Nat → Bool} {X : XM} {h : AH} (hT : TR g α ν X h) {O : XM} (hO : WO O) (hM : RM O X) {s : Nat} (hs : (s : Int) < nS O) {b : Int} (hb : R31 b) (hn : ¬ (0 ≤ b ∧ b < nC O)) : Mu g α ν M_X12_ruleFor 27 [.ref (α 40 0), .int (J (s : Int)), .int (J b)] h (some (.int (J (0)))) (fun X' => X' = xs X 40 0 0 1) := by
  refine mu_of rfl rfl (ls := [some (.ref (α 40 0)), some (.int (J (s : Int))), some (.int (J b)), none, none]) rfl (Nat.le_of_ble_eq_true rfl) ?_
  show Ev g M_X12_ruleFor 27 0 [some (.ref (α 40 0)), some (.int (J (s : Int))), some (.int (J b)), none, none] [] h 0 0 (UQ g α ν (some (.int (J (0)))) (fun X' => X' = xs X 40 0 0 1))
  have q0 := rm_nC hM
  have q1 := wo_nC hO
  have q2 := rm_nS hM
  have q3 := wo_nS hO
  refine ev_ald0 1 dX12_ruleFor_0 rfl ?_
  refine ev_ild1 2 dX12_ruleFor_1 rfl ?_
  refine tc_V1 5 14 dX12_ruleFor_2 lkv_X12_158 (tr40 hT) rfl rfl (by first | decide | omega) (Nat.le_of_ble_eq_true rfl) (isStudent_ok hT hO hM (by omega)) ?_
  refine tj_if_eq 20 8 dX12_ruleFor_5 (by decide) rfl (by first | exact TR.rng hT _ _ _ | exact R31_of _ | exact bi_R _ | (constructor <;> omega)) (fun c5 => ?_) (fun c5 => ?_)
  · exact False.elim (by omega)
  · skip
    refine ev_ald0 9 dX12_ruleFor_8 rfl ?_
    refine ev_ild2 10 dX12_ruleFor_9 rfl ?_
    refine tc_V1 13 14 dX12_ruleFor_10 lkv_X12_151 (tr40 hT) rfl rfl (by first | decide | omega) (Nat.le_of_ble_eq_true rfl) (isCourse_no hT hO hM hb hn) ?_
    refine tj_if_eq 20 16 dX12_ruleFor_13 (by decide) rfl (by first | exact TR.rng hT _ _ _ | exact R31_of _ | exact bi_R _ | (constructor <;> omega)) (fun c13 => ?_) (fun c13 => ?_)
    · skip
      refine tj_iconst 21 dX12_ruleFor_20 rfl ?_
      refine ev_ist3 22 dX12_ruleFor_21 rfl (by decide) rfl ?_
      refine ev_ild3 23 dX12_ruleFor_22 rfl ?_
      refine tj_if_eq 35 26 dX12_ruleFor_23 (by decide) rfl (by first | exact TR.rng hT _ _ _ | exact R31_of _ | exact bi_R _ | (constructor <;> omega)) (fun c23 => ?_) (fun c23 => ?_)
      · skip
        refine tj_iconst 36 dX12_ruleFor_35 rfl ?_
        refine ev_ist4 38 dX12_ruleFor_36 rfl (by decide) rfl ?_
        refine ev_ald0 39 dX12_ruleFor_38 rfl ?_
        refine ev_ild3 40 dX12_ruleFor_39 rfl ?_
        refine tj_if_ne 47 43 dX12_ruleFor_40 (by decide) rfl (by first | exact TR.rng hT _ _ _ | exact R31_of _ | exact bi_R _ | (constructor <;> omega)) (fun c40 => ?_) (fun c40 => ?_)
        · exact False.elim (by omega)
        · skip
          refine tj_iconst 44 dX12_ruleFor_43 rfl ?_
          refine ev_goto 58 dX12_ruleFor_44 (by decide) ?_
          refine tm_V1 61 14 dX12_ruleFor_58 lkv_X12_144 (tr40 hT) rfl rfl (by first | decide | omega) (Nat.le_of_ble_eq_true rfl) (goes_n hT (by omega)) (fun h X1 hT hP58 => ?_)
          have hM1 := hM
          have hM : RM O X1 := by rw [hP58]; exact rm_th hM1 _
          have q0 := rm_nC hM
          have q2 := rm_nS hM
          refine tj_if_eq 74 64 dX12_ruleFor_61 (by decide) rfl (by first | exact TR.rng hT _ _ _ | exact R31_of _ | exact bi_R _ | (constructor <;> omega)) (fun c61 => ?_) (fun c61 => ?_)
          · skip
            refine tj_iconst 75 dX12_ruleFor_74 rfl ?_
            exact ev_ireturn (uq_i (by first | rfl | omega | exact bi_dt (by omega) | exact bi_df (by omega) | (skip)) hT (by assumption)) rfl dX12_ruleFor_75
          · exact False.elim (by omega)
      · exact False.elim (by omega)
    · exact False.elim (by omega)
set_option maxRecDepth 100000 in
set_option maxHeartbeats 4000000 in
theorem c_X12_ruleFor_x2 {g : Gt} {α : AL} {ν : Nat → Nat → Bool} {X : XM} {h : AH} (hT : TR g α ν X h) {O : XM} (hO : WO O) (hM : RM O X) {s : Nat} (hs : (s : Int) < nS O) {c : Nat} (hc : (c : Int) < nC O) (hg : givV O s c = -1) : Mu g α ν M_X12_ruleFor 27 [.ref (α 40 0), .int (J (s : Int)), .int (J (c : Int))] h (some (.int (J 0))) (fun X' => RM O X' ∧ CZ X X' 2) := by
  refine mu_of rfl rfl (ls := [some (.ref (α 40 0)), some (.int (J (s : Int))), some (.int (J (c : Int))), none, none]) rfl (Nat.le_of_ble_eq_true rfl) ?_
  show Ev g M_X12_ruleFor 27 0 [some (.ref (α 40 0)), some (.int (J (s : Int))), some (.int (J (c : Int))), none, none] [] h 0 0 (UQ g α ν (some (.int (J 0))) (fun X' => RM O X' ∧ CZ X X' 2))
  have q0 := rm_nC hM
  have q1 := wo_nC hO
  have q2 := rm_nS hM
  have q3 := wo_nS hO
  refine ev_ald0 1 dX12_ruleFor_0 rfl ?_
  refine ev_ild1 2 dX12_ruleFor_1 rfl ?_
  refine tc_V1 5 14 dX12_ruleFor_2 lkv_X12_158 (tr40 hT) rfl rfl (by first | decide | omega) (Nat.le_of_ble_eq_true rfl) (isStudent_ok hT hO hM (by omega)) ?_
  refine tj_if_eq 20 8 dX12_ruleFor_5 (by decide) rfl (by first | exact TR.rng hT _ _ _ | exact R31_of _ | exact bi_R _ | (constructor <;> omega)) (fun c5 => ?_) (fun c5 => ?_)
  · exact False.elim (by omega)
  · skip
    refine ev_ald0 9 dX12_ruleFor_8 rfl ?_
    refine ev_ild2 10 dX12_ruleFor_9 rfl ?_
    refine tc_V1 13 14 dX12_ruleFor_10 lkv_X12_151 (tr40 hT) rfl rfl (by first | decide | omega) (Nat.le_of_ble_eq_true rfl) (isCourse_ok hT hO hM (by omega)) ?_
    refine tj_if_eq 20 16 dX12_ruleFor_13 (by decide) rfl (by first | exact TR.rng hT _ _ _ | exact R31_of _ | exact bi_R _ | (constructor <;> omega)) (fun c13 => ?_) (fun c13 => ?_)
    · exact False.elim (by omega)
    · skip
      refine tj_iconst 17 dX12_ruleFor_16 rfl ?_
      refine ev_goto 21 dX12_ruleFor_17 (by decide) ?_
      refine ev_ist3 22 dX12_ruleFor_21 rfl (by decide) rfl ?_
      refine ev_ild3 23 dX12_ruleFor_22 rfl ?_
      refine tj_if_eq 35 26 dX12_ruleFor_23 (by decide) rfl (by first | exact TR.rng hT _ _ _ | exact R31_of _ | exact bi_R _ | (constructor <;> omega)) (fun c23 => ?_) (fun c23 => ?_)
      · exact False.elim (by omega)
      · skip
        refine ev_ald0 27 dX12_ruleFor_26 rfl ?_
        refine ev_ild1 28 dX12_ruleFor_27 rfl ?_
        refine ev_ild2 29 dX12_ruleFor_28 rfl ?_
        refine tm_V2 32 14 dX12_ruleFor_29 lkv_X12_303 (tr40 hT) rfl rfl (by first | decide | omega) (Nat.le_of_ble_eq_true rfl) (c_X12_givenTo hT hO hM hs hc) (fun h X1 hT hP29 => ?_)
        have hFg := hP29.1
        have hLg := hP29.2
        have hMg := hFg.rm hM
        obtain ⟨XG, hXG⟩ : ∃ Z, Z = X1 := ⟨_, rfl⟩
        rw [← hXG] at hT hFg hLg hMg
        have gvR : -1 ≤ givV O s c ∧ givV O s c < 4 := by have := nsl_4 hO s; rcases givV_p hO s c with e | ⟨r, e, h1, -⟩ <;> omega
        refine ev_goto 36 dX12_ruleFor_32 (by decide) ?_
        refine ev_ist4 38 dX12_ruleFor_36 rfl (by decide) rfl ?_
        refine ev_ald0 39 dX12_ruleFor_38 rfl ?_
        refine ev_ild3 40 dX12_ruleFor_39 rfl ?_
        refine tj_if_ne 47 43 dX12_ruleFor_40 (by decide) rfl (by first | exact TR.rng hT _ _ _ | exact R31_of _ | exact bi_R _ | (constructor <;> omega)) (fun c40 => ?_) (fun c40 => ?_)
        · skip
          refine ev_ild4 49 dX12_ruleFor_47 rfl ?_
          refine tj_iconst 50 dX12_ruleFor_49 rfl ?_
          refine tj_icmp_ne 57 53 dX12_ruleFor_50 (by decide) rfl (by first | exact TR.rng hT _ _ _ | exact R31_of _ | exact bi_R _ | (constructor <;> omega)) (by first | exact TR.rng hT _ _ _ | exact R31_of _ | exact bi_R _ | (constructor <;> omega)) (fun c50 => ?_) (fun c50 => ?_)
          · exact False.elim (by omega)
          · skip
            refine tj_iconst 54 dX12_ruleFor_53 rfl ?_
            refine ev_goto 58 dX12_ruleFor_54 (by decide) ?_
            refine tm_V1 61 14 dX12_ruleFor_58 lkv_X12_144 (tr40 hT) rfl rfl (by first | decide | omega) (Nat.le_of_ble_eq_true rfl) (goes_n hT (by omega)) (fun h X1 hT hP58 => ?_)
            have hMR : RM O X1 := by rw [hP58]; exact rm_th hMg _
            have hCR : CZ X X1 2 := by rw [hP58]; exact CZ.at (fun kk q => hFg.1 kk (by omega) (by omega) (by omega) (by omega)) 2
            refine tj_if_eq 74 64 dX12_ruleFor_61 (by decide) rfl (by first | exact TR.rng hT _ _ _ | exact R31_of _ | exact bi_R _ | (constructor <;> omega)) (fun c61 => ?_) (fun c61 => ?_)
            · skip
              refine tj_iconst 75 dX12_ruleFor_74 rfl ?_
              exact ev_ireturn (uq_i (by first | rfl | omega | exact bi_dt (by omega) | exact bi_df (by omega) | (skip)) hT (by exact ⟨hMR, hCR⟩)) rfl dX12_ruleFor_75
            · exact False.elim (by omega)
        · exact False.elim (by omega)
set_option maxRecDepth 100000 in
set_option maxHeartbeats 4000000 in
theorem c_X12_ruleFor_ok {g : Gt} {α : AL} {ν : Nat → Nat → Bool} {X : XM} {h : AH} (hT : TR g α ν X h) {O : XM} (hO : WO O) (hM : RM O X) {s : Nat} (hs : (s : Int) < nS O) {c : Nat} (hc : (c : Int) < nC O) {r : Nat} (hg : givV O s c = (r : Int)) (hr : r < nsl O s) : Mu g α ν M_X12_ruleFor 27 [.ref (α 40 0), .int (J (s : Int)), .int (J (c : Int))] h (some (.int (J (itR O s r : Int)))) (fun X' => RM O X' ∧ CZ X X' 0) := by
  refine mu_of rfl rfl (ls := [some (.ref (α 40 0)), some (.int (J (s : Int))), some (.int (J (c : Int))), none, none]) rfl (Nat.le_of_ble_eq_true rfl) ?_
  show Ev g M_X12_ruleFor 27 0 [some (.ref (α 40 0)), some (.int (J (s : Int))), some (.int (J (c : Int))), none, none] [] h 0 0 (UQ g α ν (some (.int (J (itR O s r : Int)))) (fun X' => RM O X' ∧ CZ X X' 0))
  have q0 := rm_nC hM
  have q1 := wo_nC hO
  have q2 := rm_nS hM
  have q3 := wo_nS hO
  refine ev_ald0 1 dX12_ruleFor_0 rfl ?_
  refine ev_ild1 2 dX12_ruleFor_1 rfl ?_
  refine tc_V1 5 14 dX12_ruleFor_2 lkv_X12_158 (tr40 hT) rfl rfl (by first | decide | omega) (Nat.le_of_ble_eq_true rfl) (isStudent_ok hT hO hM (by omega)) ?_
  refine tj_if_eq 20 8 dX12_ruleFor_5 (by decide) rfl (by first | exact TR.rng hT _ _ _ | exact R31_of _ | exact bi_R _ | (constructor <;> omega)) (fun c5 => ?_) (fun c5 => ?_)
  · exact False.elim (by omega)
  · skip
    refine ev_ald0 9 dX12_ruleFor_8 rfl ?_
    refine ev_ild2 10 dX12_ruleFor_9 rfl ?_
    refine tc_V1 13 14 dX12_ruleFor_10 lkv_X12_151 (tr40 hT) rfl rfl (by first | decide | omega) (Nat.le_of_ble_eq_true rfl) (isCourse_ok hT hO hM (by omega)) ?_
    refine tj_if_eq 20 16 dX12_ruleFor_13 (by decide) rfl (by first | exact TR.rng hT _ _ _ | exact R31_of _ | exact bi_R _ | (constructor <;> omega)) (fun c13 => ?_) (fun c13 => ?_)
    · exact False.elim (by omega)
    · skip
      refine tj_iconst 17 dX12_ruleFor_16 rfl ?_
      refine ev_goto 21 dX12_ruleFor_17 (by decide) ?_
      refine ev_ist3 22 dX12_ruleFor_21 rfl (by decide) rfl ?_
      refine ev_ild3 23 dX12_ruleFor_22 rfl ?_
      refine tj_if_eq 35 26 dX12_ruleFor_23 (by decide) rfl (by first | exact TR.rng hT _ _ _ | exact R31_of _ | exact bi_R _ | (constructor <;> omega)) (fun c23 => ?_) (fun c23 => ?_)
      · exact False.elim (by omega)
      · skip
        refine ev_ald0 27 dX12_ruleFor_26 rfl ?_
        refine ev_ild1 28 dX12_ruleFor_27 rfl ?_
        refine ev_ild2 29 dX12_ruleFor_28 rfl ?_
        refine tm_V2 32 14 dX12_ruleFor_29 lkv_X12_303 (tr40 hT) rfl rfl (by first | decide | omega) (Nat.le_of_ble_eq_true rfl) (c_X12_givenTo hT hO hM hs hc) (fun h X1 hT hP29 => ?_)
        have hFg := hP29.1
        have hLg := hP29.2
        have hMg := hFg.rm hM
        obtain ⟨XG, hXG⟩ : ∃ Z, Z = X1 := ⟨_, rfl⟩
        rw [← hXG] at hT hFg hLg hMg
        have gvR : -1 ≤ givV O s c ∧ givV O s c < 4 := by have := nsl_4 hO s; rcases givV_p hO s c with e | ⟨r, e, h1, -⟩ <;> omega
        refine ev_goto 36 dX12_ruleFor_32 (by decide) ?_
        refine ev_ist4 38 dX12_ruleFor_36 rfl (by decide) rfl ?_
        refine ev_ald0 39 dX12_ruleFor_38 rfl ?_
        refine ev_ild3 40 dX12_ruleFor_39 rfl ?_
        refine tj_if_ne 47 43 dX12_ruleFor_40 (by decide) rfl (by first | exact TR.rng hT _ _ _ | exact R31_of _ | exact bi_R _ | (constructor <;> omega)) (fun c40 => ?_) (fun c40 => ?_)
        · skip
          refine ev_ild4 49 dX12_ruleFor_47 rfl ?_
          refine tj_iconst 50 dX12_ruleFor_49 rfl ?_
          refine tj_icmp_ne 57 53 dX12_ruleFor_50 (by decide) rfl (by first | exact TR.rng hT _ _ _ | exact R31_of _ | exact bi_R _ | (constructor <;> omega)) (by first | exact TR.rng hT _ _ _ | exact R31_of _ | exact bi_R _ | (constructor <;> omega)) (fun c50 => ?_) (fun c50 => ?_)
          · skip
            refine tj_iconst 58 dX12_ruleFor_57 rfl ?_
            refine tm_V1 61 14 dX12_ruleFor_58 lkv_X12_144 (tr40 hT) rfl rfl (by first | decide | omega) (Nat.le_of_ble_eq_true rfl) (goes_0 hT) (fun h X1 hT hP58 => ?_)
            have hMR : RM O X1 := by rw [hP58]; exact rm_th hMg _
            have hCR : CZ X X1 0 := by rw [hP58]; exact CZ.at (fun kk q => hFg.1 kk (by omega) (by omega) (by omega) (by omega)) 0
            have qn := nsl_4 hO s
            have l4 := (hLg.2.2.2 r hr).1
            refine tj_if_eq 74 64 dX12_ruleFor_61 (by decide) rfl (by first | exact TR.rng hT _ _ _ | exact R31_of _ | exact bi_R _ | (constructor <;> omega)) (fun c61 => ?_) (fun c61 => ?_)
            · exact False.elim (by omega)
            · skip
              refine ev_ald0 65 dX12_ruleFor_64 rfl ?_
              refine ev_getfield 68 14 33 fl_X12_79_14 (tr40 hT) rfl dX12_ruleFor_65 rfl ?_
              refine ev_ild4 70 dX12_ruleFor_68 rfl ?_
              refine tv_iald 71 (tr73 hT) (r) (by omega) (by omega) (by omega) dX12_ruleFor_70 rfl ?_
              refine ev_goto 75 dX12_ruleFor_71 (by decide) ?_
              exact ev_ireturn (uq_i (by first | rfl | omega | exact bi_dt (by omega) | exact bi_df (by omega) | (rw [hP58, xs_nk (by decide)]; exact l4)) hT (by exact ⟨hMR, hCR⟩)) rfl dX12_ruleFor_75
          · exact False.elim (by omega)
        · exact False.elim (by omega)
/-- nothing is wrong in the office (as far as the two sides look at it) -/
def sndP (O : XM) : Prop := (∀ c : Nat, (c : Int) < nC O → enr O c ≤ O 12 c 2) ∧ ∀ s : Nat, (s : Int) < nS O → load O s ≤ 18 ∧ ∀ c : Nat, (c : Int) < nC O → place O c s ≠ -1 → tak O s c = false ∧ canT O s c = false
noncomputable def sndV (O : XM) : Bool := @decide (sndP O) (Classical.propDecidable _)
theorem sndV_t {O : XM} (h : sndP O) : sndV O = true := @decide_eq_true _ (Classical.propDecidable _) h
theorem sndV_f {O : XM} (h : ¬ sndP O) : sndV O = false := @decide_eq_false _ (Classical.propDecidable _) h
def sndS (O : XM) (s n : Nat) : Prop := load O s ≤ 18 ∧ ∀ c : Nat, c < n → place O c s ≠ -1 → tak O s c = false ∧ canT O s c = false
theorem sndS_y {O : XM} {s n : Nat} (h : sndS O s n) (hc : place O n s ≠ -1 → tak O s n = false ∧ canT O s n = false) : sndS O s (n + 1) := ⟨h.1, fun c hc2 => by
  by_cases e : c = n
  · rw [e]; exact hc
  · exact h.2 c (by omega)⟩
theorem sndS_d {O : XM} {s n : Nat} (h : sndS O s (n + 1)) : sndS O s n := ⟨h.1, fun c hc => h.2 c (by omega)⟩
noncomputable def sndW (O : XM) (s : Nat) : Bool := @decide (sndS O s (nC O).toNat) (Classical.propDecidable _)
theorem sndW_of {O : XM} {s : Nat} {w : Bool} (h : w = true ↔ sndS O s (nC O).toNat) : w = sndW O s := by
  unfold sndW
  cases w with
  | true => exact (@decide_eq_true _ (Classical.propDecidable _) (h.mp rfl)).symm
  | false => exact (@decide_eq_false _ (Classical.propDecidable _) (fun q => Bool.false_ne_true (h.mpr q))).symm
theorem sndW_iff {O : XM} {s : Nat} : sndW O s = true ↔ sndS O s (nC O).toNat := ⟨fun h => @of_decide_eq_true _ (Classical.propDecidable _) h, fun h => @decide_eq_true _ (Classical.propDecidable _) h⟩
theorem place_far {O : XM} (hO : WO O) {c s : Nat} (hc : (c : Int) < nC O) (hs : nS O ≤ (s : Int)) : ∀ n : Nat, (n : Int) ≤ O 1 (4 + c) 2 → plc O c s n = -1
  | 0, _ => rfl
  | n + 1, h => by
    have q := wo_wA hO c n hc (by omega)
    have ih := place_far hO hc hs n (by omega)
    show (if plc O c s n = -1 then (if O 2 (4 + c) (n + 1) = s then (n : Int) else -1) else plc O c s n) = -1
    rw [if_pos ih, if_neg (by omega)]
theorem sndV_of {O : XM} {w : Bool} (h : w = true ↔ sndP O) : w = sndV O := by
  cases w with
  | true => exact (sndV_t (h.mp rfl)).symm
  | false => exact (sndV_f (fun q => Bool.false_ne_true (h.mpr q))).symm
set_option maxRecDepth 100000 in
set_option maxHeartbeats 4000000 in
theorem c_X12_isSoundFor {g : Gt} {α : AL} {ν : Nat → Nat → Bool} {X : XM} {h : AH} (hT : TR g α ν X h) {O : XM} (hO : WO O) (hM : RM O X) {s : Nat} (hs : (s : Int) < nS O) : Pr g M_X12_isSoundFor 17 [.ref (α 40 0), .int (J (s : Int))] h (some (.int (J (bi (sndW O s))))) := by
  refine pr_of rfl rfl (ls := [some (.ref (α 40 0)), some (.int (J (s : Int))), none, none]) rfl (Nat.le_of_ble_eq_true rfl) ?_
  show Ev g M_X12_isSoundFor 17 0 [some (.ref (α 40 0)), some (.int (J (s : Int))), none, none] [] h 0 0 (PQ (some (.int (J (bi (sndW O s))))) h)
  have q0 := rm_nC hM
  have q1 := wo_nC hO
  have q2 := rm_nS hM
  have q3 := wo_nS hO
  have ql : 0 ≤ load O s ∧ load O s ≤ 6 * ((nC O).toNat : Int) := crS_0 hO (tak O s) (nC O).toNat (by omega)
  refine ev_ald0 1 dX12_isSoundFor_0 rfl ?_
  refine ev_ald0 2 dX12_isSoundFor_1 rfl ?_
  refine ev_getfield 5 14 12 fl_X12_31_14 (tr40 hT) rfl dX12_isSoundFor_2 rfl ?_
  refine ev_ild1 6 dX12_isSoundFor_5 rfl ?_
  refine tv_iald 7 (tr52 hT) (s) (by omega) (by omega) (by omega) dX12_isSoundFor_6 rfl ?_
  refine tc_V1 10 14 dX12_isSoundFor_7 lkv_X12_123 (tr40 hT) rfl rfl (by first | decide | omega) (Nat.le_of_ble_eq_true rfl) (cM_tak hT hO hM hs) ?_
  refine tj_bipush 12 dX12_isSoundFor_10 (by decide) rfl ?_
  refine tj_icmp_gt 19 15 dX12_isSoundFor_12 (by decide) rfl (by first | exact TR.rng hT _ _ _ | exact R31_of _ | exact bi_R _ | (constructor <;> omega)) (by first | exact TR.rng hT _ _ _ | exact R31_of _ | exact bi_R _ | (constructor <;> omega)) (fun c12 => ?_) (fun c12 => ?_)
  · skip
    obtain ⟨w0, hw0⟩ : ∃ w0 : Bool, (0 : Int) = bi w0 ∧ (w0 = true ↔ sndS O s 0) := ⟨false, rfl, ⟨fun q => (by cases q), fun q => absurd q.1 (by omega)⟩⟩
    refine tj_iconst 20 dX12_isSoundFor_19 rfl ?_
    refine ev_ist2 21 dX12_isSoundFor_20 rfl (by decide) rfl ?_
    refine tj_iconst 22 dX12_isSoundFor_21 rfl ?_
    refine ev_ist3 23 dX12_isSoundFor_22 rfl (by decide) rfl ?_
    have lp23 : ∀ (n23 : Nat) (c : Nat) (w : Bool) (z2 : Int) (z3 : Int) , 21 - c < n23 → ((c : Int) ≤ nC O) → (w = true ↔ sndS O s c) → z2 = bi w → z3 = (c : Int) → Ev g M_X12_isSoundFor 17 23 [some (.ref (α 40 0)), some (.int (J (s : Int))), some (.int (J z2)), some (.int (J z3))] [] h 0 0 (PQ (some (.int (J (bi (sndW O s))))) h) := by
      intro n23
      induction n23 with
      | zero => intro c w z2 z3 hm; exact absurd hm (Nat.not_lt_zero _)
      | succ n23 ih23 =>
        intro c w z2 z3 hm23 hc hw e2 e3
        subst e2
        subst e3
        refine ev_ild3 24 dX12_isSoundFor_23 rfl ?_
        refine ev_ald0 25 dX12_isSoundFor_24 rfl ?_
        refine ev_getfield 28 14 3 fl_X12_93_14 (tr40 hT) rfl dX12_isSoundFor_25 rfl ?_
        refine tj_icmp_ge 79 31 dX12_isSoundFor_28 (by decide) rfl (by first | exact TR.rng hT _ _ _ | exact R31_of _ | exact bi_R _ | (constructor <;> omega)) (by first | exact TR.rng hT _ _ _ | exact R31_of _ | exact bi_R _ | (constructor <;> omega)) (fun c28 => ?_) (fun c28 => ?_)
        · skip
          refine ev_ild2 80 dX12_isSoundFor_79 rfl ?_
          exact tz_ret (by first | rfl | omega | exact bi_dt (by omega) | exact bi_df (by omega) | (exact congrArg bi (sndW_of ((show c = (nC O).toNat by omega) ▸ hw)))) rfl dX12_isSoundFor_80
        · skip
          refine ev_ild2 32 dX12_isSoundFor_31 rfl ?_
          refine tb_if_eq 71 35 dX12_isSoundFor_32 (by decide) rfl (fun c32 => ?_) (fun c32 => ?_)
          · skip
            obtain ⟨w9, hw9⟩ : ∃ w9 : Bool, (0 : Int) = bi w9 ∧ (w9 = true ↔ sndS O s (c + 1)) := ⟨false, rfl, ⟨fun q => (by cases q), fun q => absurd (hw.mpr (sndS_d q)) (by rw [c32]; decide)⟩⟩
            refine tj_iconst 72 dX12_isSoundFor_71 rfl ?_
            refine ev_ist2 73 dX12_isSoundFor_72 rfl (by decide) rfl ?_
            refine tj_inc3 76 dX12_isSoundFor_73 rfl (by decide) rfl ?_
            refine ev_goto 23 dX12_isSoundFor_76 (by decide) ?_
            exact ih23 (c + 1) (w9) _ _ (by omega) (by first | omega | assumption | first | exact hw0.2 | exact hw9.2) (by first | omega | assumption | first | exact hw0.2 | exact hw9.2) (by first | rfl | omega | (first | exact hw0.1 | exact hw9.1)) (by first | rfl | omega | (first | exact hw0.1 | exact hw9.1))
          · skip
            have hcc : (c : Int) < nC O := by omega
            have plR := place_R hO hcc s
            have hw2 := hw.mp c32
            refine ev_ald0 36 dX12_isSoundFor_35 rfl ?_
            refine ev_ild3 37 dX12_isSoundFor_36 rfl ?_
            refine ev_ild1 38 dX12_isSoundFor_37 rfl ?_
            refine tc_V2 41 14 dX12_isSoundFor_38 lkv_X12_202 (tr40 hT) rfl rfl (by first | decide | omega) (Nat.le_of_ble_eq_true rfl) (c_X12_placeIn hT hO hM (c := c) (by omega) (s := s) (by omega)) ?_
            refine tj_iconst 42 dX12_isSoundFor_41 rfl ?_
            refine tj_icmp_eq 67 45 dX12_isSoundFor_42 (by decide) rfl (by first | exact TR.rng hT _ _ _ | exact R31_of _ | exact bi_R _ | (constructor <;> omega)) (by first | exact TR.rng hT _ _ _ | exact R31_of _ | exact bi_R _ | (constructor <;> omega)) (fun c42 => ?_) (fun c42 => ?_)
            · skip
              obtain ⟨w9, hw9⟩ : ∃ w9 : Bool, (1 : Int) = bi w9 ∧ (w9 = true ↔ sndS O s (c + 1)) := ⟨true, rfl, ⟨fun _ => sndS_y hw2 (fun q => absurd c42 q), fun _ => rfl⟩⟩
              refine tj_iconst 68 dX12_isSoundFor_67 rfl ?_
              refine ev_goto 72 dX12_isSoundFor_68 (by decide) ?_
              refine ev_ist2 73 dX12_isSoundFor_72 rfl (by decide) rfl ?_
              refine tj_inc3 76 dX12_isSoundFor_73 rfl (by decide) rfl ?_
              refine ev_goto 23 dX12_isSoundFor_76 (by decide) ?_
              exact ih23 (c + 1) (w9) _ _ (by omega) (by first | omega | assumption | first | exact hw0.2 | exact hw9.2) (by first | omega | assumption | first | exact hw0.2 | exact hw9.2) (by first | rfl | omega | (first | exact hw0.1 | exact hw9.1)) (by first | rfl | omega | (first | exact hw0.1 | exact hw9.1))
            · skip
              refine ev_ald0 46 dX12_isSoundFor_45 rfl ?_
              refine ev_getfield 49 14 12 fl_X12_31_14 (tr40 hT) rfl dX12_isSoundFor_46 rfl ?_
              refine ev_ild1 50 dX12_isSoundFor_49 rfl ?_
              refine tv_iald 51 (tr52 hT) (s) (by omega) (by omega) (by omega) dX12_isSoundFor_50 rfl ?_
              refine ev_ild3 52 dX12_isSoundFor_51 rfl ?_
              refine tc_S2 55 dX12_isSoundFor_52 lks_X12_106 rfl (by first | decide | omega) (Nat.le_of_ble_eq_true rfl) (has_of (rm_tak hM _ (by omega)) (by omega) rfl : Pr g M_X12_has 0 _ h (some (.int (J (bi (tak O _ _)))))) ?_
              refine tb_if_ne 71 58 dX12_isSoundFor_55 (by decide) rfl (fun c55 => ?_) (fun c55 => ?_)
              · skip
                obtain ⟨w9, hw9⟩ : ∃ w9 : Bool, (0 : Int) = bi w9 ∧ (w9 = true ↔ sndS O s (c + 1)) := ⟨false, rfl, ⟨fun q => (by cases q), fun q => by have := (q.2 c (Nat.lt_succ_self c) c42).1; rw [c55] at this; cases this⟩⟩
                refine tj_iconst 72 dX12_isSoundFor_71 rfl ?_
                refine ev_ist2 73 dX12_isSoundFor_72 rfl (by decide) rfl ?_
                refine tj_inc3 76 dX12_isSoundFor_73 rfl (by decide) rfl ?_
                refine ev_goto 23 dX12_isSoundFor_76 (by decide) ?_
                exact ih23 (c + 1) (w9) _ _ (by omega) (by first | omega | assumption | first | exact hw0.2 | exact hw9.2) (by first | omega | assumption | first | exact hw0.2 | exact hw9.2) (by first | rfl | omega | (first | exact hw0.1 | exact hw9.1)) (by first | rfl | omega | (first | exact hw0.1 | exact hw9.1))
              · skip
                refine ev_ald0 59 dX12_isSoundFor_58 rfl ?_
                refine ev_ild1 60 dX12_isSoundFor_59 rfl ?_
                refine ev_ild3 61 dX12_isSoundFor_60 rfl ?_
                refine tc_V2 64 14 dX12_isSoundFor_61 lkv_X12_179 (tr40 hT) rfl rfl (by first | decide | omega) (Nat.le_of_ble_eq_true rfl) (c_X12_canTake hT hO hM (by omega) (by omega)) ?_
                refine tb_if_ne 71 67 dX12_isSoundFor_64 (by decide) rfl (fun c64 => ?_) (fun c64 => ?_)
                · skip
                  obtain ⟨w9, hw9⟩ : ∃ w9 : Bool, (0 : Int) = bi w9 ∧ (w9 = true ↔ sndS O s (c + 1)) := ⟨false, rfl, ⟨fun q => (by cases q), fun q => by have := (q.2 c (Nat.lt_succ_self c) c42).2; rw [c64] at this; cases this⟩⟩
                  refine tj_iconst 72 dX12_isSoundFor_71 rfl ?_
                  refine ev_ist2 73 dX12_isSoundFor_72 rfl (by decide) rfl ?_
                  refine tj_inc3 76 dX12_isSoundFor_73 rfl (by decide) rfl ?_
                  refine ev_goto 23 dX12_isSoundFor_76 (by decide) ?_
                  exact ih23 (c + 1) (w9) _ _ (by omega) (by first | omega | assumption | first | exact hw0.2 | exact hw9.2) (by first | omega | assumption | first | exact hw0.2 | exact hw9.2) (by first | rfl | omega | (first | exact hw0.1 | exact hw9.1)) (by first | rfl | omega | (first | exact hw0.1 | exact hw9.1))
                · skip
                  obtain ⟨w9, hw9⟩ : ∃ w9 : Bool, (1 : Int) = bi w9 ∧ (w9 = true ↔ sndS O s (c + 1)) := ⟨true, rfl, ⟨fun _ => sndS_y hw2 (fun _ => ⟨c55, c64⟩), fun _ => rfl⟩⟩
                  refine tj_iconst 68 dX12_isSoundFor_67 rfl ?_
                  refine ev_goto 72 dX12_isSoundFor_68 (by decide) ?_
                  refine ev_ist2 73 dX12_isSoundFor_72 rfl (by decide) rfl ?_
                  refine tj_inc3 76 dX12_isSoundFor_73 rfl (by decide) rfl ?_
                  refine ev_goto 23 dX12_isSoundFor_76 (by decide) ?_
                  exact ih23 (c + 1) (w9) _ _ (by omega) (by first | omega | assumption | first | exact hw0.2 | exact hw9.2) (by first | omega | assumption | first | exact hw0.2 | exact hw9.2) (by first | rfl | omega | (first | exact hw0.1 | exact hw9.1)) (by first | rfl | omega | (first | exact hw0.1 | exact hw9.1))
    exact lp23 _ (0) (w0) _ _ (Nat.lt_succ_self _) (by first | omega | assumption | first | exact hw0.2 | exact hw9.2) (by first | omega | assumption | first | exact hw0.2 | exact hw9.2) (by first | rfl | omega | (first | exact hw0.1 | exact hw9.1)) (by first | rfl | omega | (first | exact hw0.1 | exact hw9.1))
  · skip
    obtain ⟨w0, hw0⟩ : ∃ w0 : Bool, (1 : Int) = bi w0 ∧ (w0 = true ↔ sndS O s 0) := ⟨true, rfl, ⟨fun _ => ⟨by omega, fun c q => absurd q (Nat.not_lt_zero c)⟩, fun _ => rfl⟩⟩
    refine tj_iconst 16 dX12_isSoundFor_15 rfl ?_
    refine ev_goto 20 dX12_isSoundFor_16 (by decide) ?_
    refine ev_ist2 21 dX12_isSoundFor_20 rfl (by decide) rfl ?_
    refine tj_iconst 22 dX12_isSoundFor_21 rfl ?_
    refine ev_ist3 23 dX12_isSoundFor_22 rfl (by decide) rfl ?_
    have lp23 : ∀ (n23 : Nat) (c : Nat) (w : Bool) (z2 : Int) (z3 : Int) , 21 - c < n23 → ((c : Int) ≤ nC O) → (w = true ↔ sndS O s c) → z2 = bi w → z3 = (c : Int) → Ev g M_X12_isSoundFor 17 23 [some (.ref (α 40 0)), some (.int (J (s : Int))), some (.int (J z2)), some (.int (J z3))] [] h 0 0 (PQ (some (.int (J (bi (sndW O s))))) h) := by
      intro n23
      induction n23 with
      | zero => intro c w z2 z3 hm; exact absurd hm (Nat.not_lt_zero _)
      | succ n23 ih23 =>
        intro c w z2 z3 hm23 hc hw e2 e3
        subst e2
        subst e3
        refine ev_ild3 24 dX12_isSoundFor_23 rfl ?_
        refine ev_ald0 25 dX12_isSoundFor_24 rfl ?_
        refine ev_getfield 28 14 3 fl_X12_93_14 (tr40 hT) rfl dX12_isSoundFor_25 rfl ?_
        refine tj_icmp_ge 79 31 dX12_isSoundFor_28 (by decide) rfl (by first | exact TR.rng hT _ _ _ | exact R31_of _ | exact bi_R _ | (constructor <;> omega)) (by first | exact TR.rng hT _ _ _ | exact R31_of _ | exact bi_R _ | (constructor <;> omega)) (fun c28 => ?_) (fun c28 => ?_)
        · skip
          refine ev_ild2 80 dX12_isSoundFor_79 rfl ?_
          exact tz_ret (by first | rfl | omega | exact bi_dt (by omega) | exact bi_df (by omega) | (exact congrArg bi (sndW_of ((show c = (nC O).toNat by omega) ▸ hw)))) rfl dX12_isSoundFor_80
        · skip
          refine ev_ild2 32 dX12_isSoundFor_31 rfl ?_
          refine tb_if_eq 71 35 dX12_isSoundFor_32 (by decide) rfl (fun c32 => ?_) (fun c32 => ?_)
          · skip
            obtain ⟨w9, hw9⟩ : ∃ w9 : Bool, (0 : Int) = bi w9 ∧ (w9 = true ↔ sndS O s (c + 1)) := ⟨false, rfl, ⟨fun q => (by cases q), fun q => absurd (hw.mpr (sndS_d q)) (by rw [c32]; decide)⟩⟩
            refine tj_iconst 72 dX12_isSoundFor_71 rfl ?_
            refine ev_ist2 73 dX12_isSoundFor_72 rfl (by decide) rfl ?_
            refine tj_inc3 76 dX12_isSoundFor_73 rfl (by decide) rfl ?_
            refine ev_goto 23 dX12_isSoundFor_76 (by decide) ?_
            exact ih23 (c + 1) (w9) _ _ (by omega) (by first | omega | assumption | first | exact hw0.2 | exact hw9.2) (by first | omega | assumption | first | exact hw0.2 | exact hw9.2) (by first | rfl | omega | (first | exact hw0.1 | exact hw9.1)) (by first | rfl | omega | (first | exact hw0.1 | exact hw9.1))
          · skip
            have hcc : (c : Int) < nC O := by omega
            have plR := place_R hO hcc s
            have hw2 := hw.mp c32
            refine ev_ald0 36 dX12_isSoundFor_35 rfl ?_
            refine ev_ild3 37 dX12_isSoundFor_36 rfl ?_
            refine ev_ild1 38 dX12_isSoundFor_37 rfl ?_
            refine tc_V2 41 14 dX12_isSoundFor_38 lkv_X12_202 (tr40 hT) rfl rfl (by first | decide | omega) (Nat.le_of_ble_eq_true rfl) (c_X12_placeIn hT hO hM (c := c) (by omega) (s := s) (by omega)) ?_
            refine tj_iconst 42 dX12_isSoundFor_41 rfl ?_
            refine tj_icmp_eq 67 45 dX12_isSoundFor_42 (by decide) rfl (by first | exact TR.rng hT _ _ _ | exact R31_of _ | exact bi_R _ | (constructor <;> omega)) (by first | exact TR.rng hT _ _ _ | exact R31_of _ | exact bi_R _ | (constructor <;> omega)) (fun c42 => ?_) (fun c42 => ?_)
            · skip
              obtain ⟨w9, hw9⟩ : ∃ w9 : Bool, (1 : Int) = bi w9 ∧ (w9 = true ↔ sndS O s (c + 1)) := ⟨true, rfl, ⟨fun _ => sndS_y hw2 (fun q => absurd c42 q), fun _ => rfl⟩⟩
              refine tj_iconst 68 dX12_isSoundFor_67 rfl ?_
              refine ev_goto 72 dX12_isSoundFor_68 (by decide) ?_
              refine ev_ist2 73 dX12_isSoundFor_72 rfl (by decide) rfl ?_
              refine tj_inc3 76 dX12_isSoundFor_73 rfl (by decide) rfl ?_
              refine ev_goto 23 dX12_isSoundFor_76 (by decide) ?_
              exact ih23 (c + 1) (w9) _ _ (by omega) (by first | omega | assumption | first | exact hw0.2 | exact hw9.2) (by first | omega | assumption | first | exact hw0.2 | exact hw9.2) (by first | rfl | omega | (first | exact hw0.1 | exact hw9.1)) (by first | rfl | omega | (first | exact hw0.1 | exact hw9.1))
            · skip
              refine ev_ald0 46 dX12_isSoundFor_45 rfl ?_
              refine ev_getfield 49 14 12 fl_X12_31_14 (tr40 hT) rfl dX12_isSoundFor_46 rfl ?_
              refine ev_ild1 50 dX12_isSoundFor_49 rfl ?_
              refine tv_iald 51 (tr52 hT) (s) (by omega) (by omega) (by omega) dX12_isSoundFor_50 rfl ?_
              refine ev_ild3 52 dX12_isSoundFor_51 rfl ?_
              refine tc_S2 55 dX12_isSoundFor_52 lks_X12_106 rfl (by first | decide | omega) (Nat.le_of_ble_eq_true rfl) (has_of (rm_tak hM _ (by omega)) (by omega) rfl : Pr g M_X12_has 0 _ h (some (.int (J (bi (tak O _ _)))))) ?_
              refine tb_if_ne 71 58 dX12_isSoundFor_55 (by decide) rfl (fun c55 => ?_) (fun c55 => ?_)
              · skip
                obtain ⟨w9, hw9⟩ : ∃ w9 : Bool, (0 : Int) = bi w9 ∧ (w9 = true ↔ sndS O s (c + 1)) := ⟨false, rfl, ⟨fun q => (by cases q), fun q => by have := (q.2 c (Nat.lt_succ_self c) c42).1; rw [c55] at this; cases this⟩⟩
                refine tj_iconst 72 dX12_isSoundFor_71 rfl ?_
                refine ev_ist2 73 dX12_isSoundFor_72 rfl (by decide) rfl ?_
                refine tj_inc3 76 dX12_isSoundFor_73 rfl (by decide) rfl ?_
                refine ev_goto 23 dX12_isSoundFor_76 (by decide) ?_
                exact ih23 (c + 1) (w9) _ _ (by omega) (by first | omega | assumption | first | exact hw0.2 | exact hw9.2) (by first | omega | assumption | first | exact hw0.2 | exact hw9.2) (by first | rfl | omega | (first | exact hw0.1 | exact hw9.1)) (by first | rfl | omega | (first | exact hw0.1 | exact hw9.1))
              · skip
                refine ev_ald0 59 dX12_isSoundFor_58 rfl ?_
                refine ev_ild1 60 dX12_isSoundFor_59 rfl ?_
                refine ev_ild3 61 dX12_isSoundFor_60 rfl ?_
                refine tc_V2 64 14 dX12_isSoundFor_61 lkv_X12_179 (tr40 hT) rfl rfl (by first | decide | omega) (Nat.le_of_ble_eq_true rfl) (c_X12_canTake hT hO hM (by omega) (by omega)) ?_
                refine tb_if_ne 71 67 dX12_isSoundFor_64 (by decide) rfl (fun c64 => ?_) (fun c64 => ?_)
                · skip
                  obtain ⟨w9, hw9⟩ : ∃ w9 : Bool, (0 : Int) = bi w9 ∧ (w9 = true ↔ sndS O s (c + 1)) := ⟨false, rfl, ⟨fun q => (by cases q), fun q => by have := (q.2 c (Nat.lt_succ_self c) c42).2; rw [c64] at this; cases this⟩⟩
                  refine tj_iconst 72 dX12_isSoundFor_71 rfl ?_
                  refine ev_ist2 73 dX12_isSoundFor_72 rfl (by decide) rfl ?_
                  refine tj_inc3 76 dX12_isSoundFor_73 rfl (by decide) rfl ?_
                  refine ev_goto 23 dX12_isSoundFor_76 (by decide) ?_
                  exact ih23 (c + 1) (w9) _ _ (by omega) (by first | omega | assumption | first | exact hw0.2 | exact hw9.2) (by first | omega | assumption | first | exact hw0.2 | exact hw9.2) (by first | rfl | omega | (first | exact hw0.1 | exact hw9.1)) (by first | rfl | omega | (first | exact hw0.1 | exact hw9.1))
                · skip
                  obtain ⟨w9, hw9⟩ : ∃ w9 : Bool, (1 : Int) = bi w9 ∧ (w9 = true ↔ sndS O s (c + 1)) := ⟨true, rfl, ⟨fun _ => sndS_y hw2 (fun _ => ⟨c55, c64⟩), fun _ => rfl⟩⟩
                  refine tj_iconst 68 dX12_isSoundFor_67 rfl ?_
                  refine ev_goto 72 dX12_isSoundFor_68 (by decide) ?_
                  refine ev_ist2 73 dX12_isSoundFor_72 rfl (by decide) rfl ?_
                  refine tj_inc3 76 dX12_isSoundFor_73 rfl (by decide) rfl ?_
                  refine ev_goto 23 dX12_isSoundFor_76 (by decide) ?_
                  exact ih23 (c + 1) (w9) _ _ (by omega) (by first | omega | assumption | first | exact hw0.2 | exact hw9.2) (by first | omega | assumption | first | exact hw0.2 | exact hw9.2) (by first | rfl | omega | (first | exact hw0.1 | exact hw9.1)) (by first | rfl | omega | (first | exact hw0.1 | exact hw9.1))
    exact lp23 _ (0) (w0) _ _ (Nat.lt_succ_self _) (by first | omega | assumption | first | exact hw0.2 | exact hw9.2) (by first | omega | assumption | first | exact hw0.2 | exact hw9.2) (by first | rfl | omega | (first | exact hw0.1 | exact hw9.1)) (by first | rfl | omega | (first | exact hw0.1 | exact hw9.1))
set_option maxRecDepth 100000 in
set_option maxHeartbeats 4000000 in
theorem c_X12_isSound {g : Gt} {α : AL} {ν : Nat → Nat → Bool} {X : XM} {h : AH} (hT : TR g α ν X h) {O : XM} (hO : WO O) (hM : RM O X) : Mu g α ν M_X12_isSound 27 [.ref (α 40 0)] h (some (.int (J (bi (sndV O))))) (fun X' => RM O X' ∧ CZ X X' 0) := by
  refine mu_of rfl rfl (ls := [some (.ref (α 40 0)), none, none]) rfl (Nat.le_of_ble_eq_true rfl) ?_
  show Ev g M_X12_isSound 27 0 [some (.ref (α 40 0)), none, none] [] h 0 0 (UQ g α ν (some (.int (J (bi (sndV O))))) (fun X' => RM O X' ∧ CZ X X' 0))
  have q0 := rm_nC hM
  have q1 := wo_nC hO
  have q2 := rm_nS hM
  have q3 := wo_nS hO
  refine ev_ald0 1 dX12_isSound_0 rfl ?_
  refine tj_iconst 2 dX12_isSound_1 rfl ?_
  refine tv_puti 5 0 .int fl_X12_89_14 fp_14_0 hT (tv40 hT) (fun _ => rfl) rfl (Nat.le_of_ble_eq_true rfl) rfl rfl (by first | exact TR.rng hT _ _ _ | exact R31_of _ | exact bi_R _ | (constructor <;> omega)) dX12_isSound_2 rfl (fun h hT => ?_)
  obtain ⟨X1, hX1⟩ : ∃ Z, Z = xs X 40 0 0 0 := ⟨_, rfl⟩
  rw [← hX1] at hT
  have hC0 : CZ X X1 0 := by rw [hX1]; exact CZ.go X 0
  have hM0 := hM
  have hM : RM O X1 := by rw [hX1]; exact rm_th hM0 _
  have q0 := rm_nC hM
  have q2 := rm_nS hM
  refine tj_iconst 6 dX12_isSound_5 rfl ?_
  refine ev_ist1 7 dX12_isSound_6 rfl (by decide) rfl ?_
  refine tj_iconst 8 dX12_isSound_7 rfl ?_
  refine ev_ist2 9 dX12_isSound_8 rfl (by decide) rfl ?_
  have lp9 : ∀ (n9 : Nat) (c : Nat) (w : Bool) (z1 : Int) (z2 : Int) , 21 - c < n9 → ((c : Int) ≤ nC O) → (w = true ↔ (∀ c2 : Nat, c2 < c → enr O c2 ≤ O 12 c2 2)) → z1 = bi w → z2 = (c : Int) → Ev g M_X12_isSound 27 9 [some (.ref (α 40 0)), some (.int (J z1)), some (.int (J z2))] [] h 0 0 (UQ g α ν (some (.int (J (bi (sndV O))))) (fun X' => RM O X' ∧ CZ X X' 0)) := by
    intro n9
    induction n9 with
    | zero => intro c w z1 z2 hm; exact absurd hm (Nat.not_lt_zero _)
    | succ n9 ih9 =>
      intro c w z1 z2 hm9 hc hw e1 e2
      subst e1
      subst e2
      refine ev_ild2 10 dX12_isSound_9 rfl ?_
      refine ev_ald0 11 dX12_isSound_10 rfl ?_
      refine ev_getfield 14 14 3 fl_X12_93_14 (tr40 hT) rfl dX12_isSound_11 rfl ?_
      refine tj_icmp_ge 47 17 dX12_isSound_14 (by decide) rfl (by first | exact TR.rng hT _ _ _ | exact R31_of _ | exact bi_R _ | (constructor <;> omega)) (by first | exact TR.rng hT _ _ _ | exact R31_of _ | exact bi_R _ | (constructor <;> omega)) (fun c14 => ?_) (fun c14 => ?_)
      · skip
        obtain ⟨w1, hw1⟩ : ∃ w1 : Bool, bi w = bi w1 ∧ (w1 = true ↔ ((∀ c2 : Nat, (c2 : Int) < nC O → enr O c2 ≤ O 12 c2 2) ∧ ∀ s2 : Nat, s2 < 0 → sndS O s2 (nC O).toNat)) := ⟨w, rfl, ⟨fun q => ⟨fun c2 h2 => hw.mp q c2 (by omega), fun s2 h2 => absurd h2 (Nat.not_lt_zero s2)⟩, fun q => hw.mpr (fun c2 h2 => q.1 c2 (by omega))⟩⟩
        refine tj_iconst 48 dX12_isSound_47 rfl ?_
        refine ev_ist2 49 dX12_isSound_48 rfl (by decide) rfl ?_
        have lp49 : ∀ (n49 : Nat) (s : Nat) (w : Bool) (z1 : Int) (z2 : Int) , 17 - s < n49 → ((s : Int) ≤ nS O) → (w = true ↔ ((∀ c2 : Nat, (c2 : Int) < nC O → enr O c2 ≤ O 12 c2 2) ∧ ∀ s2 : Nat, s2 < s → sndS O s2 (nC O).toNat)) → z1 = bi w → z2 = (s : Int) → Ev g M_X12_isSound 27 49 [some (.ref (α 40 0)), some (.int (J z1)), some (.int (J z2))] [] h 0 0 (UQ g α ν (some (.int (J (bi (sndV O))))) (fun X' => RM O X' ∧ CZ X X' 0)) := by
          intro n49
          induction n49 with
          | zero => intro s w z1 z2 hm; exact absurd hm (Nat.not_lt_zero _)
          | succ n49 ih49 =>
            intro s w z1 z2 hm49 hs hw e1 e2
            subst e1
            subst e2
            refine ev_ild2 50 dX12_isSound_49 rfl ?_
            refine ev_ald0 51 dX12_isSound_50 rfl ?_
            refine ev_getfield 54 14 10 fl_X12_100_14 (tr40 hT) rfl dX12_isSound_51 rfl ?_
            refine tj_icmp_ge 81 57 dX12_isSound_54 (by decide) rfl (by first | exact TR.rng hT _ _ _ | exact R31_of _ | exact bi_R _ | (constructor <;> omega)) (by first | exact TR.rng hT _ _ _ | exact R31_of _ | exact bi_R _ | (constructor <;> omega)) (fun c54 => ?_) (fun c54 => ?_)
            · skip
              refine ev_ild1 82 dX12_isSound_81 rfl ?_
              exact tz_retU (by first | rfl | omega | exact bi_dt (by omega) | exact bi_df (by omega) | (exact congrArg bi (sndV_of ⟨fun q => ⟨(hw.mp q).1, fun s2 h2 => ⟨((hw.mp q).2 s2 (by omega)).1, fun c2 h3 => ((hw.mp q).2 s2 (by omega)).2 c2 (by omega)⟩⟩, fun q => hw.mpr ⟨q.1, fun s2 h2 => ⟨(q.2 s2 (by omega)).1, fun c2 h3 => (q.2 s2 (by omega)).2 c2 (by omega)⟩⟩⟩))) hT (by exact ⟨hM, hC0⟩) rfl dX12_isSound_82
            · skip
              refine ev_ild1 58 dX12_isSound_57 rfl ?_
              refine tb_if_eq 73 61 dX12_isSound_58 (by decide) rfl (fun c58 => ?_) (fun c58 => ?_)
              · skip
                obtain ⟨w9, hw9⟩ : ∃ w9 : Bool, (0 : Int) = bi w9 ∧ (w9 = true ↔ ((∀ c2 : Nat, (c2 : Int) < nC O → enr O c2 ≤ O 12 c2 2) ∧ ∀ s2 : Nat, s2 < s + 1 → sndS O s2 (nC O).toNat)) := ⟨false, rfl, ⟨fun q => (by cases q), fun q => absurd (hw.mpr ⟨q.1, fun s2 h2 => q.2 s2 (by omega)⟩) (by rw [c58]; decide)⟩⟩
                refine tj_iconst 74 dX12_isSound_73 rfl ?_
                refine ev_ist1 75 dX12_isSound_74 rfl (by decide) rfl ?_
                refine tj_inc2 78 dX12_isSound_75 rfl (by decide) rfl ?_
                refine ev_goto 49 dX12_isSound_78 (by decide) ?_
                exact ih49 (s + 1) (w9) _ _ (by omega) (by first | omega | assumption | first | exact hw1.2 | exact hw9.2) (by first | omega | assumption | first | exact hw1.2 | exact hw9.2) (by first | rfl | omega | (first | exact hw1.1 | exact hw9.1)) (by first | rfl | omega | (first | exact hw1.1 | exact hw9.1))
              · skip
                have hw2 := hw.mp c58
                refine ev_ald0 62 dX12_isSound_61 rfl ?_
                refine ev_ild2 63 dX12_isSound_62 rfl ?_
                refine tc_V1 66 14 dX12_isSound_63 lkv_X12_306 (tr40 hT) rfl rfl (by first | decide | omega) (Nat.le_of_ble_eq_true rfl) (c_X12_isSoundFor hT hO hM (by omega)) ?_
                refine tb_if_eq 73 69 dX12_isSound_66 (by decide) rfl (fun c66 => ?_) (fun c66 => ?_)
                · skip
                  obtain ⟨w9, hw9⟩ : ∃ w9 : Bool, (0 : Int) = bi w9 ∧ (w9 = true ↔ ((∀ c2 : Nat, (c2 : Int) < nC O → enr O c2 ≤ O 12 c2 2) ∧ ∀ s2 : Nat, s2 < s + 1 → sndS O s2 (nC O).toNat)) := ⟨false, rfl, ⟨fun q => (by cases q), fun q => absurd (sndW_iff.mpr (q.2 s (Nat.lt_succ_self s))) (by rw [c66]; decide)⟩⟩
                  refine tj_iconst 74 dX12_isSound_73 rfl ?_
                  refine ev_ist1 75 dX12_isSound_74 rfl (by decide) rfl ?_
                  refine tj_inc2 78 dX12_isSound_75 rfl (by decide) rfl ?_
                  refine ev_goto 49 dX12_isSound_78 (by decide) ?_
                  exact ih49 (s + 1) (w9) _ _ (by omega) (by first | omega | assumption | first | exact hw1.2 | exact hw9.2) (by first | omega | assumption | first | exact hw1.2 | exact hw9.2) (by first | rfl | omega | (first | exact hw1.1 | exact hw9.1)) (by first | rfl | omega | (first | exact hw1.1 | exact hw9.1))
                · skip
                  obtain ⟨w9, hw9⟩ : ∃ w9 : Bool, (1 : Int) = bi w9 ∧ (w9 = true ↔ ((∀ c2 : Nat, (c2 : Int) < nC O → enr O c2 ≤ O 12 c2 2) ∧ ∀ s2 : Nat, s2 < s + 1 → sndS O s2 (nC O).toNat)) := ⟨true, rfl, ⟨fun _ => ⟨hw2.1, fun s2 h2 => by by_cases e : s2 = s; (rw [e]; exact sndW_iff.mp c66); exact hw2.2 s2 (by omega)⟩, fun _ => rfl⟩⟩
                  refine tj_iconst 70 dX12_isSound_69 rfl ?_
                  refine ev_goto 74 dX12_isSound_70 (by decide) ?_
                  refine ev_ist1 75 dX12_isSound_74 rfl (by decide) rfl ?_
                  refine tj_inc2 78 dX12_isSound_75 rfl (by decide) rfl ?_
                  refine ev_goto 49 dX12_isSound_78 (by decide) ?_
                  exact ih49 (s + 1) (w9) _ _ (by omega) (by first | omega | assumption | first | exact hw1.2 | exact hw9.2) (by first | omega | assumption | first | exact hw1.2 | exact hw9.2) (by first | rfl | omega | (first | exact hw1.1 | exact hw9.1)) (by first | rfl | omega | (first | exact hw1.1 | exact hw9.1))
        exact lp49 _ (0) (w1) _ _ (Nat.lt_succ_self _) (by first | omega | assumption | first | exact hw1.2 | exact hw9.2) (by first | omega | assumption | first | exact hw1.2 | exact hw9.2) (by first | rfl | omega | (first | exact hw1.1 | exact hw9.1)) (by first | rfl | omega | (first | exact hw1.1 | exact hw9.1))
      · skip
        refine ev_ild1 18 dX12_isSound_17 rfl ?_
        refine tb_if_eq 39 21 dX12_isSound_18 (by decide) rfl (fun c18 => ?_) (fun c18 => ?_)
        · skip
          obtain ⟨w9, hw9⟩ : ∃ w9 : Bool, (0 : Int) = bi w9 ∧ (w9 = true ↔ ∀ c2 : Nat, c2 < c + 1 → enr O c2 ≤ O 12 c2 2) := ⟨false, rfl, ⟨fun q => (by cases q), fun q => absurd (hw.mpr (fun c2 h2 => q c2 (by omega))) (by rw [c18]; decide)⟩⟩
          refine tj_iconst 40 dX12_isSound_39 rfl ?_
          refine ev_ist1 41 dX12_isSound_40 rfl (by decide) rfl ?_
          refine tj_inc2 44 dX12_isSound_41 rfl (by decide) rfl ?_
          refine ev_goto 9 dX12_isSound_44 (by decide) ?_
          exact ih9 (c + 1) (w9) _ _ (by omega) (by first | omega | assumption | first | exact ⟨fun _ c2 q => absurd q (Nat.not_lt_zero c2), fun _ => rfl⟩ | exact hw9.2) (by first | omega | assumption | first | exact ⟨fun _ c2 q => absurd q (Nat.not_lt_zero c2), fun _ => rfl⟩ | exact hw9.2) (by first | rfl | omega | (exact hw9.1)) (by first | rfl | omega | (exact hw9.1))
        · skip
          have hw2 := hw.mp c18
          have hcc : (c : Int) < nC O := by omega
          have qse := rm_sea hM c hcc
          have qse2 := wo_sea hO c hcc
          have qen := cnt_0 (fun s => tak O s c) (nS O).toNat
          have qen1 : enr O c = cnt (fun s => tak O s c) (nS O).toNat := rfl
          refine ev_ald0 22 dX12_isSound_21 rfl ?_
          refine ev_ild2 23 dX12_isSound_22 rfl ?_
          refine tc_V1 26 14 dX12_isSound_23 lkv_X12_161 (tr40 hT) rfl rfl (by first | decide | omega) (Nat.le_of_ble_eq_true rfl) (c_X12_enrolledIn hT hO hM (by omega)) ?_
          refine ev_ald0 27 dX12_isSound_26 rfl ?_
          refine ev_getfield 30 14 5 fl_X12_13_14 (tr40 hT) rfl dX12_isSound_27 rfl ?_
          refine ev_ild2 31 dX12_isSound_30 rfl ?_
          refine tv_iald 32 (tr45 hT) (c) (by omega) (by omega) (by omega) dX12_isSound_31 rfl ?_
          refine tj_icmp_gt 39 35 dX12_isSound_32 (by decide) rfl (by first | exact TR.rng hT _ _ _ | exact R31_of _ | exact bi_R _ | (constructor <;> omega)) (by first | exact TR.rng hT _ _ _ | exact R31_of _ | exact bi_R _ | (constructor <;> omega)) (fun c32 => ?_) (fun c32 => ?_)
          · skip
            obtain ⟨w9, hw9⟩ : ∃ w9 : Bool, (0 : Int) = bi w9 ∧ (w9 = true ↔ ∀ c2 : Nat, c2 < c + 1 → enr O c2 ≤ O 12 c2 2) := ⟨false, rfl, ⟨fun q => (by cases q), fun q => absurd (q c (Nat.lt_succ_self c)) (by omega)⟩⟩
            refine tj_iconst 40 dX12_isSound_39 rfl ?_
            refine ev_ist1 41 dX12_isSound_40 rfl (by decide) rfl ?_
            refine tj_inc2 44 dX12_isSound_41 rfl (by decide) rfl ?_
            refine ev_goto 9 dX12_isSound_44 (by decide) ?_
            exact ih9 (c + 1) (w9) _ _ (by omega) (by first | omega | assumption | first | exact ⟨fun _ c2 q => absurd q (Nat.not_lt_zero c2), fun _ => rfl⟩ | exact hw9.2) (by first | omega | assumption | first | exact ⟨fun _ c2 q => absurd q (Nat.not_lt_zero c2), fun _ => rfl⟩ | exact hw9.2) (by first | rfl | omega | (exact hw9.1)) (by first | rfl | omega | (exact hw9.1))
          · skip
            obtain ⟨w9, hw9⟩ : ∃ w9 : Bool, (1 : Int) = bi w9 ∧ (w9 = true ↔ ∀ c2 : Nat, c2 < c + 1 → enr O c2 ≤ O 12 c2 2) := ⟨true, rfl, ⟨fun _ c2 h2 => by by_cases e : c2 = c; (rw [e]; omega); exact hw2 c2 (by omega), fun _ => rfl⟩⟩
            refine tj_iconst 36 dX12_isSound_35 rfl ?_
            refine ev_goto 40 dX12_isSound_36 (by decide) ?_
            refine ev_ist1 41 dX12_isSound_40 rfl (by decide) rfl ?_
            refine tj_inc2 44 dX12_isSound_41 rfl (by decide) rfl ?_
            refine ev_goto 9 dX12_isSound_44 (by decide) ?_
            exact ih9 (c + 1) (w9) _ _ (by omega) (by first | omega | assumption | first | exact ⟨fun _ c2 q => absurd q (Nat.not_lt_zero c2), fun _ => rfl⟩ | exact hw9.2) (by first | omega | assumption | first | exact ⟨fun _ c2 q => absurd q (Nat.not_lt_zero c2), fun _ => rfl⟩ | exact hw9.2) (by first | rfl | omega | (exact hw9.1)) (by first | rfl | omega | (exact hw9.1))
  exact lp9 _ (0) (true) _ _ (Nat.lt_succ_self _) (by first | omega | assumption | first | exact ⟨fun _ c2 q => absurd q (Nat.not_lt_zero c2), fun _ => rfl⟩ | exact hw9.2) (by first | omega | assumption | first | exact ⟨fun _ c2 q => absurd q (Nat.not_lt_zero c2), fun _ => rfl⟩ | exact hw9.2) (by first | rfl | omega | (exact hw9.1)) (by first | rfl | omega | (exact hw9.1))
