/-! the reference's -/
set_option maxRecDepth 100000 in
set_option maxHeartbeats 4000000 in
theorem c_X12_share_b1 {g : Gt} {α : AL} {ν : Nat → Nat → Bool} {X : XM} {h : AH} (hT : TR g α ν X h) {O : XM} (hO : WO O) (hM : RM O X) {b : Int} (hb : R31 b) (hn : ¬ (0 ≤ b ∧ b < nC O)) : Mu g α ν M_X12_share 27 [.ref (α 40 0), .int (J b)] h (some (.float FP.fconst0)) (fun X' => X' = xs X 40 0 0 1) := by
  refine mu_of rfl rfl (ls := [some (.ref (α 40 0)), some (.int (J b))]) rfl (Nat.le_of_ble_eq_true rfl) ?_
  show Ev g M_X12_share 27 0 [some (.ref (α 40 0)), some (.int (J b))] [] h 0 0 (UQ g α ν (some (.float FP.fconst0)) (fun X' => X' = xs X 40 0 0 1))
  have q0 := rm_nC hM
  have q1 := wo_nC hO
  have q2 := rm_nS hM
  have q3 := wo_nS hO
  refine ev_ald0 1 dX12_share_0 rfl ?_
  refine ev_ald0 2 dX12_share_1 rfl ?_
  refine ev_ild1 3 dX12_share_2 rfl ?_
  refine tc_V1 6 14 dX12_share_3 lkv_X12_151 (tr40 hT) rfl rfl (by first | decide | omega) (Nat.le_of_ble_eq_true rfl) (isCourse_no hT hO hM hb hn) ?_
  refine tj_if_eq 13 9 dX12_share_6 (by decide) rfl (by first | exact TR.rng hT _ _ _ | exact R31_of _ | exact bi_R _ | (constructor <;> omega)) (fun c6 => ?_) (fun c6 => ?_)
  · skip
    refine tj_iconst 14 dX12_share_13 rfl ?_
    refine tm_V1 17 14 dX12_share_14 lkv_X12_144 (tr40 hT) rfl rfl (by first | decide | omega) (Nat.le_of_ble_eq_true rfl) (goes_n hT (by omega)) (fun h X1 hT hP14 => ?_)
    have hM1 := hM
    have hM : RM O X1 := by rw [hP14]; exact rm_th hM1 _
    have q0 := rm_nC hM
    have q2 := rm_nS hM
    refine tj_if_eq 37 20 dX12_share_17 (by decide) rfl (by first | exact TR.rng hT _ _ _ | exact R31_of _ | exact bi_R _ | (constructor <;> omega)) (fun c17 => ?_) (fun c17 => ?_)
    · skip
      refine ev_fconst0 38 dX12_share_37 rfl ?_
      exact ev_freturn ⟨by rfl, _, hT, (by assumption)⟩ rfl dX12_share_38
    · exact False.elim (by omega)
  · exact False.elim (by omega)
set_option maxRecDepth 100000 in
set_option maxHeartbeats 4000000 in
theorem c_X12_share_ok {g : Gt} {α : AL} {ν : Nat → Nat → Bool} {X : XM} {h : AH} (hT : TR g α ν X h) {O : XM} (hO : WO O) (hM : RM O X) {c : Nat} (hc : (c : Int) < nC O) : Mu g α ν M_X12_share 27 [.ref (α 40 0), .int (J (c : Int))] h (some (.float (FP.fdiv (FP.i2f (J (enr O c))) (FP.i2f (J (O 12 c 2)))))) (fun X' => X' = xs X 40 0 0 0) := by
  refine mu_of rfl rfl (ls := [some (.ref (α 40 0)), some (.int (J (c : Int)))]) rfl (Nat.le_of_ble_eq_true rfl) ?_
  show Ev g M_X12_share 27 0 [some (.ref (α 40 0)), some (.int (J (c : Int)))] [] h 0 0 (UQ g α ν (some (.float (FP.fdiv (FP.i2f (J (enr O c))) (FP.i2f (J (O 12 c 2)))))) (fun X' => X' = xs X 40 0 0 0))
  have q0 := rm_nC hM
  have q1 := wo_nC hO
  have q2 := rm_nS hM
  have q3 := wo_nS hO
  have h1 := enr_0 hO c
  have h2 := wo_sea hO c hc
  refine ev_ald0 1 dX12_share_0 rfl ?_
  refine ev_ald0 2 dX12_share_1 rfl ?_
  refine ev_ild1 3 dX12_share_2 rfl ?_
  refine tc_V1 6 14 dX12_share_3 lkv_X12_151 (tr40 hT) rfl rfl (by first | decide | omega) (Nat.le_of_ble_eq_true rfl) (isCourse_ok hT hO hM (by omega)) ?_
  refine tj_if_eq 13 9 dX12_share_6 (by decide) rfl (by first | exact TR.rng hT _ _ _ | exact R31_of _ | exact bi_R _ | (constructor <;> omega)) (fun c6 => ?_) (fun c6 => ?_)
  · exact False.elim (by omega)
  · skip
    refine tj_iconst 10 dX12_share_9 rfl ?_
    refine ev_goto 14 dX12_share_10 (by decide) ?_
    refine tm_V1 17 14 dX12_share_14 lkv_X12_144 (tr40 hT) rfl rfl (by first | decide | omega) (Nat.le_of_ble_eq_true rfl) (goes_0 hT) (fun h X1 hT hP14 => ?_)
    have hM1 := hM
    have hM : RM O X1 := by rw [hP14]; exact rm_th hM1 _
    have q0 := rm_nC hM
    have q2 := rm_nS hM
    refine tj_if_eq 37 20 dX12_share_17 (by decide) rfl (by first | exact TR.rng hT _ _ _ | exact R31_of _ | exact bi_R _ | (constructor <;> omega)) (fun c17 => ?_) (fun c17 => ?_)
    · exact False.elim (by omega)
    · skip
      refine ev_ald0 21 dX12_share_20 rfl ?_
      refine ev_ild1 22 dX12_share_21 rfl ?_
      refine tc_V1 25 14 dX12_share_22 lkv_X12_161 (tr40 hT) rfl rfl (by first | decide | omega) (Nat.le_of_ble_eq_true rfl) (c_X12_enrolledIn hT hO hM (by omega)) ?_
      refine ev_i2f 26 dX12_share_25 rfl ?_
      refine ev_ald0 27 dX12_share_26 rfl ?_
      refine ev_getfield 30 14 5 fl_X12_13_14 (tr40 hT) rfl dX12_share_27 rfl ?_
      refine ev_ild1 31 dX12_share_30 rfl ?_
      refine tv_iald 32 (tr45 hT) (c) (by omega) (by omega) (by omega) dX12_share_31 rfl ?_
      rw [rm_sea hM c hc]
      refine ev_i2f 33 dX12_share_32 rfl ?_
      refine ev_fdiv 34 dX12_share_33 (fd_J (by omega) (by omega)) rfl ?_
      refine ev_goto 38 dX12_share_34 (by decide) ?_
      exact ev_freturn ⟨by rfl, _, hT, (by assumption)⟩ rfl dX12_share_38
set_option maxRecDepth 100000 in
set_option maxHeartbeats 4000000 in
theorem c_X12_average_b1 {g : Gt} {α : AL} {ν : Nat → Nat → Bool} {X : XM} {h : AH} (hT : TR g α ν X h) {O : XM} (hO : WO O) (hM : RM O X) {b : Int} (hb : R31 b) (hn : ¬ (0 ≤ b ∧ b < nS O)) : Mu g α ν M_X12_average 27 [.ref (α 40 0), .int (J b)] h (some (.double FP.dconst0)) (fun X' => X' = xs X 40 0 0 1) := by
  refine mu_of rfl rfl (ls := [some (.ref (α 40 0)), some (.int (J b)), none, none, none, none]) rfl (Nat.le_of_ble_eq_true rfl) ?_
  show Ev g M_X12_average 27 0 [some (.ref (α 40 0)), some (.int (J b)), none, none, none, none] [] h 0 0 (UQ g α ν (some (.double FP.dconst0)) (fun X' => X' = xs X 40 0 0 1))
  have q0 := rm_nC hM
  have q1 := wo_nC hO
  have q2 := rm_nS hM
  have q3 := wo_nS hO
  refine tj_iconst 1 dX12_average_0 rfl ?_
  refine ev_ist2 2 dX12_average_1 rfl (by decide) rfl ?_
  refine tj_iconst 3 dX12_average_2 rfl ?_
  refine ev_ist3 4 dX12_average_3 rfl (by decide) rfl ?_
  refine tj_iconst 5 dX12_average_4 rfl ?_
  refine ev_ist4 7 dX12_average_5 rfl (by decide) rfl ?_
  refine ev_ild4 9 dX12_average_7 rfl ?_
  refine ev_ald0 10 dX12_average_9 rfl ?_
  refine ev_getfield 13 14 3 fl_X12_93_14 (tr40 hT) rfl dX12_average_10 rfl ?_
  refine tj_icmp_ge 82 16 dX12_average_13 (by decide) rfl (by first | exact TR.rng hT _ _ _ | exact R31_of _ | exact bi_R _ | (constructor <;> omega)) (by first | exact TR.rng hT _ _ _ | exact R31_of _ | exact bi_R _ | (constructor <;> omega)) (fun c13 => ?_) (fun c13 => ?_)
  · skip
    refine ev_ald0 83 dX12_average_82 rfl ?_
    refine ev_ald0 84 dX12_average_83 rfl ?_
    refine ev_ild1 85 dX12_average_84 rfl ?_
    refine tc_V1 88 14 dX12_average_85 lkv_X12_158 (tr40 hT) rfl rfl (by first | decide | omega) (Nat.le_of_ble_eq_true rfl) (isStudent_no hT hO hM hb hn) ?_
    refine tj_if_ne 95 91 dX12_average_88 (by decide) rfl (by first | exact TR.rng hT _ _ _ | exact R31_of _ | exact bi_R _ | (constructor <;> omega)) (fun c88 => ?_) (fun c88 => ?_)
    · exact False.elim (by omega)
    · skip
      refine tj_iconst 92 dX12_average_91 rfl ?_
      refine ev_goto 104 dX12_average_92 (by decide) ?_
      refine tm_V1 107 14 dX12_average_104 lkv_X12_144 (tr40 hT) rfl rfl (by first | decide | omega) (Nat.le_of_ble_eq_true rfl) (goes_n hT (by omega)) (fun h X1 hT hP104 => ?_)
      have hM1 := hM
      have hM : RM O X1 := by rw [hP104]; exact rm_th hM1 _
      have q0 := rm_nC hM
      have q2 := rm_nS hM
      refine tj_if_eq 118 110 dX12_average_107 (by decide) rfl (by first | exact TR.rng hT _ _ _ | exact R31_of _ | exact bi_R _ | (constructor <;> omega)) (fun c107 => ?_) (fun c107 => ?_)
      · skip
        refine ev_dconst0 119 dX12_average_118 rfl ?_
        exact ev_dreturn ⟨by rfl, _, hT, (by assumption)⟩ rfl dX12_average_119
      · exact False.elim (by omega)
  · skip
    refine ev_ald0 17 dX12_average_16 rfl ?_
    refine ev_ild1 18 dX12_average_17 rfl ?_
    refine tc_V1 21 14 dX12_average_18 lkv_X12_158 (tr40 hT) rfl rfl (by first | decide | omega) (Nat.le_of_ble_eq_true rfl) (isStudent_no hT hO hM hb hn) ?_
    refine tj_if_eq 82 24 dX12_average_21 (by decide) rfl (by first | exact TR.rng hT _ _ _ | exact R31_of _ | exact bi_R _ | (constructor <;> omega)) (fun c21 => ?_) (fun c21 => ?_)
    · skip
      refine ev_ald0 83 dX12_average_82 rfl ?_
      refine ev_ald0 84 dX12_average_83 rfl ?_
      refine ev_ild1 85 dX12_average_84 rfl ?_
      refine tc_V1 88 14 dX12_average_85 lkv_X12_158 (tr40 hT) rfl rfl (by first | decide | omega) (Nat.le_of_ble_eq_true rfl) (isStudent_no hT hO hM hb hn) ?_
      refine tj_if_ne 95 91 dX12_average_88 (by decide) rfl (by first | exact TR.rng hT _ _ _ | exact R31_of _ | exact bi_R _ | (constructor <;> omega)) (fun c88 => ?_) (fun c88 => ?_)
      · exact False.elim (by omega)
      · skip
        refine tj_iconst 92 dX12_average_91 rfl ?_
        refine ev_goto 104 dX12_average_92 (by decide) ?_
        refine tm_V1 107 14 dX12_average_104 lkv_X12_144 (tr40 hT) rfl rfl (by first | decide | omega) (Nat.le_of_ble_eq_true rfl) (goes_n hT (by omega)) (fun h X1 hT hP104 => ?_)
        have hM1 := hM
        have hM : RM O X1 := by rw [hP104]; exact rm_th hM1 _
        have q0 := rm_nC hM
        have q2 := rm_nS hM
        refine tj_if_eq 118 110 dX12_average_107 (by decide) rfl (by first | exact TR.rng hT _ _ _ | exact R31_of _ | exact bi_R _ | (constructor <;> omega)) (fun c107 => ?_) (fun c107 => ?_)
        · skip
          refine ev_dconst0 119 dX12_average_118 rfl ?_
          exact ev_dreturn ⟨by rfl, _, hT, (by assumption)⟩ rfl dX12_average_119
        · exact False.elim (by omega)
    · exact False.elim (by omega)
set_option maxRecDepth 100000 in
set_option maxHeartbeats 4000000 in
theorem c_X12_average_ok {g : Gt} {α : AL} {ν : Nat → Nat → Bool} {X : XM} {h : AH} (hT : TR g α ν X h) {O : XM} (hO : WO O) (hM : RM O X) {s : Nat} (hs : (s : Int) < nS O) (hz : avW O s (nC O).toNat ≠ 0) : Mu g α ν M_X12_average 27 [.ref (α 40 0), .int (J (s : Int))] h (some (.double (FP.ddiv (FP.i2d (J (avS O s (nC O).toNat))) (FP.i2d (J (avW O s (nC O).toNat)))))) (fun X' => X' = xs X 40 0 0 0) := by
  refine mu_of rfl rfl (ls := [some (.ref (α 40 0)), some (.int (J (s : Int))), none, none, none, none]) rfl (Nat.le_of_ble_eq_true rfl) ?_
  show Ev g M_X12_average 27 0 [some (.ref (α 40 0)), some (.int (J (s : Int))), none, none, none, none] [] h 0 0 (UQ g α ν (some (.double (FP.ddiv (FP.i2d (J (avS O s (nC O).toNat))) (FP.i2d (J (avW O s (nC O).toNat)))))) (fun X' => X' = xs X 40 0 0 0))
  have q0 := rm_nC hM
  have q1 := wo_nC hO
  have q2 := rm_nS hM
  have q3 := wo_nS hO
  have ha := av_R hO hs (nC O).toNat (by omega)
  refine tj_iconst 1 dX12_average_0 rfl ?_
  refine ev_ist2 2 dX12_average_1 rfl (by decide) rfl ?_
  refine tj_iconst 3 dX12_average_2 rfl ?_
  refine ev_ist3 4 dX12_average_3 rfl (by decide) rfl ?_
  refine tj_iconst 5 dX12_average_4 rfl ?_
  refine ev_ist4 7 dX12_average_5 rfl (by decide) rfl ?_
  have lp7 : ∀ (n7 : Nat) (c : Nat) (z2 : Int) (z3 : Int) (z4 : Int) (o5 : Option Value), 21 - c < n7 → ((c : Int) ≤ nC O) → z2 = avS O s c → z3 = avW O s c → z4 = (c : Int) → Ev g M_X12_average 27 7 [some (.ref (α 40 0)), some (.int (J (s : Int))), some (.int (J z2)), some (.int (J z3)), some (.int (J z4)), o5] [] h 0 0 (UQ g α ν (some (.double (FP.ddiv (FP.i2d (J (avS O s (nC O).toNat))) (FP.i2d (J (avW O s (nC O).toNat)))))) (fun X' => X' = xs X 40 0 0 0)) := by
    intro n7
    induction n7 with
    | zero => intro c z2 z3 z4 o5 hm; exact absurd hm (Nat.not_lt_zero _)
    | succ n7 ih7 =>
      intro c z2 z3 z4 o5 hm7 hc e2 e3 e4
      subst e2
      subst e3
      subst e4
      refine ev_ild4 9 dX12_average_7 rfl ?_
      refine ev_ald0 10 dX12_average_9 rfl ?_
      refine ev_getfield 13 14 3 fl_X12_93_14 (tr40 hT) rfl dX12_average_10 rfl ?_
      refine tj_icmp_ge 82 16 dX12_average_13 (by decide) rfl (by first | exact TR.rng hT _ _ _ | exact R31_of _ | exact bi_R _ | (constructor <;> omega)) (by first | exact TR.rng hT _ _ _ | exact R31_of _ | exact bi_R _ | (constructor <;> omega)) (fun c13 => ?_) (fun c13 => ?_)
      · skip
        obtain rfl : c = (nC O).toNat := by omega
        refine ev_ald0 83 dX12_average_82 rfl ?_
        refine ev_ald0 84 dX12_average_83 rfl ?_
        refine ev_ild1 85 dX12_average_84 rfl ?_
        refine tc_V1 88 14 dX12_average_85 lkv_X12_158 (tr40 hT) rfl rfl (by first | decide | omega) (Nat.le_of_ble_eq_true rfl) (isStudent_ok hT hO hM (by omega)) ?_
        refine tj_if_ne 95 91 dX12_average_88 (by decide) rfl (by first | exact TR.rng hT _ _ _ | exact R31_of _ | exact bi_R _ | (constructor <;> omega)) (fun c88 => ?_) (fun c88 => ?_)
        · skip
          refine ev_ild3 96 dX12_average_95 rfl ?_
          refine tj_if_ne 103 99 dX12_average_96 (by decide) rfl (by first | exact TR.rng hT _ _ _ | exact R31_of _ | exact bi_R _ | (constructor <;> omega)) (fun c96 => ?_) (fun c96 => ?_)
          · skip
            refine tj_iconst 104 dX12_average_103 rfl ?_
            refine tm_V1 107 14 dX12_average_104 lkv_X12_144 (tr40 hT) rfl rfl (by first | decide | omega) (Nat.le_of_ble_eq_true rfl) (goes_0 hT) (fun h X1 hT hP104 => ?_)
            have hM1 := hM
            have hM : RM O X1 := by rw [hP104]; exact rm_th hM1 _
            have q0 := rm_nC hM
            have q2 := rm_nS hM
            refine tj_if_eq 118 110 dX12_average_107 (by decide) rfl (by first | exact TR.rng hT _ _ _ | exact R31_of _ | exact bi_R _ | (constructor <;> omega)) (fun c107 => ?_) (fun c107 => ?_)
            · exact False.elim (by omega)
            · skip
              refine ev_ild2 111 dX12_average_110 rfl ?_
              refine ev_i2d 112 dX12_average_111 rfl ?_
              refine ev_ild3 113 dX12_average_112 rfl ?_
              refine ev_i2d 114 dX12_average_113 rfl ?_
              refine ev_ddiv 115 dX12_average_114 (dd_J (by constructor <;> omega) hz) rfl ?_
              refine ev_goto 119 dX12_average_115 (by decide) ?_
              exact ev_dreturn ⟨by rfl, _, hT, (by assumption)⟩ rfl dX12_average_119
          · exact False.elim (by omega)
        · exact False.elim (by omega)
      · skip
        have hl2 := lastM_R hO hs (c := c) (by omega)
        have hcr := rm_crd hM c (by omega)
        refine ev_ald0 17 dX12_average_16 rfl ?_
        refine ev_ild1 18 dX12_average_17 rfl ?_
        refine tc_V1 21 14 dX12_average_18 lkv_X12_158 (tr40 hT) rfl rfl (by first | decide | omega) (Nat.le_of_ble_eq_true rfl) (isStudent_ok hT hO hM (by omega)) ?_
        refine tj_if_eq 82 24 dX12_average_21 (by decide) rfl (by first | exact TR.rng hT _ _ _ | exact R31_of _ | exact bi_R _ | (constructor <;> omega)) (fun c21 => ?_) (fun c21 => ?_)
        · exact False.elim (by omega)
        · skip
          refine ev_ald0 25 dX12_average_24 rfl ?_
          refine ev_ild1 26 dX12_average_25 rfl ?_
          refine ev_ild4 28 dX12_average_26 rfl ?_
          refine tc_V2 31 14 dX12_average_28 lkv_X12_227 (tr40 hT) rfl rfl (by first | decide | omega) (Nat.le_of_ble_eq_true rfl) (c_X12_lastMark hT hO hM (by omega) (by omega)) ?_
          refine ev_ist5 33 dX12_average_31 rfl (by decide) rfl ?_
          refine ev_ild2 34 dX12_average_33 rfl ?_
          refine ev_ild5 36 dX12_average_34 rfl ?_
          refine tj_iconst 37 dX12_average_36 rfl ?_
          refine tj_icmp_ne 44 40 dX12_average_37 (by decide) rfl (by first | exact TR.rng hT _ _ _ | exact R31_of _ | exact bi_R _ | (constructor <;> omega)) (by first | exact TR.rng hT _ _ _ | exact R31_of _ | exact bi_R _ | (constructor <;> omega)) (fun c37 => ?_) (fun c37 => ?_)
          · skip
            refine ev_ild5 46 dX12_average_44 rfl ?_
            refine ev_ald0 47 dX12_average_46 rfl ?_
            refine ev_getfield 50 14 4 fl_X12_9_14 (tr40 hT) rfl dX12_average_47 rfl ?_
            refine ev_ild4 52 dX12_average_50 rfl ?_
            refine tv_iald 53 (tr44 hT) (c) (by omega) (by omega) (by omega) dX12_average_52 rfl ?_
            rw [hcr]
            refine tj_imul 54 dX12_average_53 rfl ?_
            refine tj_iadd 55 dX12_average_54 rfl ?_
            refine ev_ist2 56 dX12_average_55 rfl (by decide) rfl ?_
            refine ev_ild3 57 dX12_average_56 rfl ?_
            refine ev_ild5 59 dX12_average_57 rfl ?_
            refine tj_iconst 60 dX12_average_59 rfl ?_
            refine tj_icmp_ne 67 63 dX12_average_60 (by decide) rfl (by first | exact TR.rng hT _ _ _ | exact R31_of _ | exact bi_R _ | (constructor <;> omega)) (by first | exact TR.rng hT _ _ _ | exact R31_of _ | exact bi_R _ | (constructor <;> omega)) (fun c60 => ?_) (fun c60 => ?_)
            · skip
              refine ev_ald0 68 dX12_average_67 rfl ?_
              refine ev_getfield 71 14 4 fl_X12_9_14 (tr40 hT) rfl dX12_average_68 rfl ?_
              refine ev_ild4 73 dX12_average_71 rfl ?_
              refine tv_iald 74 (tr44 hT) (c) (by omega) (by omega) (by omega) dX12_average_73 rfl ?_
              refine tj_iadd 75 dX12_average_74 rfl ?_
              refine ev_ist3 76 dX12_average_75 rfl (by decide) rfl ?_
              refine tj_inc4 79 dX12_average_76 rfl (by decide) rfl ?_
              refine ev_goto 7 dX12_average_79 (by decide) ?_
              exact ih7 (c + 1) _ _ _ _ (by omega) (by first | omega | assumption | omega) (by first | rfl | omega | (first | (exfalso; omega) | (rw [avS, if_pos (show lastM O s c = -1 by omega)]; omega) | (rw [avS, if_neg (show ¬ lastM O s c = -1 by omega)]) | (rw [avW, if_pos (show lastM O s c = -1 by omega)]; omega) | (rw [avW, if_neg (show ¬ lastM O s c = -1 by omega), hcr]))) (by first | rfl | omega | (first | (exfalso; omega) | (rw [avS, if_pos (show lastM O s c = -1 by omega)]; omega) | (rw [avS, if_neg (show ¬ lastM O s c = -1 by omega)]) | (rw [avW, if_pos (show lastM O s c = -1 by omega)]; omega) | (rw [avW, if_neg (show ¬ lastM O s c = -1 by omega), hcr]))) (by first | rfl | omega | (first | (exfalso; omega) | (rw [avS, if_pos (show lastM O s c = -1 by omega)]; omega) | (rw [avS, if_neg (show ¬ lastM O s c = -1 by omega)]) | (rw [avW, if_pos (show lastM O s c = -1 by omega)]; omega) | (rw [avW, if_neg (show ¬ lastM O s c = -1 by omega), hcr])))
            · skip
              refine tj_iconst 64 dX12_average_63 rfl ?_
              refine ev_goto 74 dX12_average_64 (by decide) ?_
              refine tj_iadd 75 dX12_average_74 rfl ?_
              refine ev_ist3 76 dX12_average_75 rfl (by decide) rfl ?_
              refine tj_inc4 79 dX12_average_76 rfl (by decide) rfl ?_
              refine ev_goto 7 dX12_average_79 (by decide) ?_
              exact ih7 (c + 1) _ _ _ _ (by omega) (by first | omega | assumption | omega) (by first | rfl | omega | (first | (exfalso; omega) | (rw [avS, if_pos (show lastM O s c = -1 by omega)]; omega) | (rw [avS, if_neg (show ¬ lastM O s c = -1 by omega)]) | (rw [avW, if_pos (show lastM O s c = -1 by omega)]; omega) | (rw [avW, if_neg (show ¬ lastM O s c = -1 by omega), hcr]))) (by first | rfl | omega | (first | (exfalso; omega) | (rw [avS, if_pos (show lastM O s c = -1 by omega)]; omega) | (rw [avS, if_neg (show ¬ lastM O s c = -1 by omega)]) | (rw [avW, if_pos (show lastM O s c = -1 by omega)]; omega) | (rw [avW, if_neg (show ¬ lastM O s c = -1 by omega), hcr]))) (by first | rfl | omega | (first | (exfalso; omega) | (rw [avS, if_pos (show lastM O s c = -1 by omega)]; omega) | (rw [avS, if_neg (show ¬ lastM O s c = -1 by omega)]) | (rw [avW, if_pos (show lastM O s c = -1 by omega)]; omega) | (rw [avW, if_neg (show ¬ lastM O s c = -1 by omega), hcr])))
          · skip
            refine tj_iconst 41 dX12_average_40 rfl ?_
            refine ev_goto 54 dX12_average_41 (by decide) ?_
            refine tj_iadd 55 dX12_average_54 rfl ?_
            refine ev_ist2 56 dX12_average_55 rfl (by decide) rfl ?_
            refine ev_ild3 57 dX12_average_56 rfl ?_
            refine ev_ild5 59 dX12_average_57 rfl ?_
            refine tj_iconst 60 dX12_average_59 rfl ?_
            refine tj_icmp_ne 67 63 dX12_average_60 (by decide) rfl (by first | exact TR.rng hT _ _ _ | exact R31_of _ | exact bi_R _ | (constructor <;> omega)) (by first | exact TR.rng hT _ _ _ | exact R31_of _ | exact bi_R _ | (constructor <;> omega)) (fun c60 => ?_) (fun c60 => ?_)
            · skip
              refine ev_ald0 68 dX12_average_67 rfl ?_
              refine ev_getfield 71 14 4 fl_X12_9_14 (tr40 hT) rfl dX12_average_68 rfl ?_
              refine ev_ild4 73 dX12_average_71 rfl ?_
              refine tv_iald 74 (tr44 hT) (c) (by omega) (by omega) (by omega) dX12_average_73 rfl ?_
              refine tj_iadd 75 dX12_average_74 rfl ?_
              refine ev_ist3 76 dX12_average_75 rfl (by decide) rfl ?_
              refine tj_inc4 79 dX12_average_76 rfl (by decide) rfl ?_
              refine ev_goto 7 dX12_average_79 (by decide) ?_
              exact ih7 (c + 1) _ _ _ _ (by omega) (by first | omega | assumption | omega) (by first | rfl | omega | (first | (exfalso; omega) | (rw [avS, if_pos (show lastM O s c = -1 by omega)]; omega) | (rw [avS, if_neg (show ¬ lastM O s c = -1 by omega)]) | (rw [avW, if_pos (show lastM O s c = -1 by omega)]; omega) | (rw [avW, if_neg (show ¬ lastM O s c = -1 by omega), hcr]))) (by first | rfl | omega | (first | (exfalso; omega) | (rw [avS, if_pos (show lastM O s c = -1 by omega)]; omega) | (rw [avS, if_neg (show ¬ lastM O s c = -1 by omega)]) | (rw [avW, if_pos (show lastM O s c = -1 by omega)]; omega) | (rw [avW, if_neg (show ¬ lastM O s c = -1 by omega), hcr]))) (by first | rfl | omega | (first | (exfalso; omega) | (rw [avS, if_pos (show lastM O s c = -1 by omega)]; omega) | (rw [avS, if_neg (show ¬ lastM O s c = -1 by omega)]) | (rw [avW, if_pos (show lastM O s c = -1 by omega)]; omega) | (rw [avW, if_neg (show ¬ lastM O s c = -1 by omega), hcr])))
            · skip
              refine tj_iconst 64 dX12_average_63 rfl ?_
              refine ev_goto 74 dX12_average_64 (by decide) ?_
              refine tj_iadd 75 dX12_average_74 rfl ?_
              refine ev_ist3 76 dX12_average_75 rfl (by decide) rfl ?_
              refine tj_inc4 79 dX12_average_76 rfl (by decide) rfl ?_
              refine ev_goto 7 dX12_average_79 (by decide) ?_
              exact ih7 (c + 1) _ _ _ _ (by omega) (by first | omega | assumption | omega) (by first | rfl | omega | (first | (exfalso; omega) | (rw [avS, if_pos (show lastM O s c = -1 by omega)]; omega) | (rw [avS, if_neg (show ¬ lastM O s c = -1 by omega)]) | (rw [avW, if_pos (show lastM O s c = -1 by omega)]; omega) | (rw [avW, if_neg (show ¬ lastM O s c = -1 by omega), hcr]))) (by first | rfl | omega | (first | (exfalso; omega) | (rw [avS, if_pos (show lastM O s c = -1 by omega)]; omega) | (rw [avS, if_neg (show ¬ lastM O s c = -1 by omega)]) | (rw [avW, if_pos (show lastM O s c = -1 by omega)]; omega) | (rw [avW, if_neg (show ¬ lastM O s c = -1 by omega), hcr]))) (by first | rfl | omega | (first | (exfalso; omega) | (rw [avS, if_pos (show lastM O s c = -1 by omega)]; omega) | (rw [avS, if_neg (show ¬ lastM O s c = -1 by omega)]) | (rw [avW, if_pos (show lastM O s c = -1 by omega)]; omega) | (rw [avW, if_neg (show ¬ lastM O s c = -1 by omega), hcr])))
  exact lp7 _ (0) _ _ _ _ (Nat.lt_succ_self _) (by first | omega | assumption | omega) (by first | rfl | omega | (first | (exfalso; omega) | (rw [avS, if_pos (show lastM O s c = -1 by omega)]; omega) | (rw [avS, if_neg (show ¬ lastM O s c = -1 by omega)]) | (rw [avW, if_pos (show lastM O s c = -1 by omega)]; omega) | (rw [avW, if_neg (show ¬ lastM O s c = -1 by omega), hcr]))) (by first | rfl | omega | (first | (exfalso; omega) | (rw [avS, if_pos (show lastM O s c = -1 by omega)]; omega) | (rw [avS, if_neg (show ¬ lastM O s c = -1 by omega)]) | (rw [avW, if_pos (show lastM O s c = -1 by omega)]; omega) | (rw [avW, if_neg (show ¬ lastM O s c = -1 by omega), hcr]))) (by first | rfl | omega | (first | (exfalso; omega) | (rw [avS, if_pos (show lastM O s c = -1 by omega)]; omega) | (rw [avS, if_neg (show ¬ lastM O s c = -1 by omega)]) | (rw [avW, if_pos (show lastM O s c = -1 by omega)]; omega) | (rw [avW, if_neg (show ¬ lastM O s c = -1 by omega), hcr])))
set_option maxRecDepth 100000 in
set_option maxHeartbeats 4000000 in
theorem c_X12_average_x2 {g : Gt} {α : AL} {ν : Nat → Nat → Bool} {X : XM} {h : AH} (hT : TR g α ν X h) {O : XM} (hO : WO O) (hM : RM O X) {s : Nat} (hs : (s : Int) < nS O) (hz : avW O s (nC O).toNat = 0) : Mu g α ν M_X12_average 27 [.ref (α 40 0), .int (J (s : Int))] h (some (.double FP.dconst0)) (fun X' => X' = xs X 40 0 0 2) := by
  refine mu_of rfl rfl (ls := [some (.ref (α 40 0)), some (.int (J (s : Int))), none, none, none, none]) rfl (Nat.le_of_ble_eq_true rfl) ?_
  show Ev g M_X12_average 27 0 [some (.ref (α 40 0)), some (.int (J (s : Int))), none, none, none, none] [] h 0 0 (UQ g α ν (some (.double FP.dconst0)) (fun X' => X' = xs X 40 0 0 2))
  have q0 := rm_nC hM
  have q1 := wo_nC hO
  have q2 := rm_nS hM
  have q3 := wo_nS hO
  have ha := av_R hO hs (nC O).toNat (by omega)
  refine tj_iconst 1 dX12_average_0 rfl ?_
  refine ev_ist2 2 dX12_average_1 rfl (by decide) rfl ?_
  refine tj_iconst 3 dX12_average_2 rfl ?_
  refine ev_ist3 4 dX12_average_3 rfl (by decide) rfl ?_
  refine tj_iconst 5 dX12_average_4 rfl ?_
  refine ev_ist4 7 dX12_average_5 rfl (by decide) rfl ?_
  have lp7 : ∀ (n7 : Nat) (c : Nat) (z2 : Int) (z3 : Int) (z4 : Int) (o5 : Option Value), 21 - c < n7 → ((c : Int) ≤ nC O) → z2 = avS O s c → z3 = avW O s c → z4 = (c : Int) → Ev g M_X12_average 27 7 [some (.ref (α 40 0)), some (.int (J (s : Int))), some (.int (J z2)), some (.int (J z3)), some (.int (J z4)), o5] [] h 0 0 (UQ g α ν (some (.double FP.dconst0)) (fun X' => X' = xs X 40 0 0 2)) := by
    intro n7
    induction n7 with
    | zero => intro c z2 z3 z4 o5 hm; exact absurd hm (Nat.not_lt_zero _)
    | succ n7 ih7 =>
      intro c z2 z3 z4 o5 hm7 hc e2 e3 e4
      subst e2
      subst e3
      subst e4
      refine ev_ild4 9 dX12_average_7 rfl ?_
      refine ev_ald0 10 dX12_average_9 rfl ?_
      refine ev_getfield 13 14 3 fl_X12_93_14 (tr40 hT) rfl dX12_average_10 rfl ?_
      refine tj_icmp_ge 82 16 dX12_average_13 (by decide) rfl (by first | exact TR.rng hT _ _ _ | exact R31_of _ | exact bi_R _ | (constructor <;> omega)) (by first | exact TR.rng hT _ _ _ | exact R31_of _ | exact bi_R _ | (constructor <;> omega)) (fun c13 => ?_) (fun c13 => ?_)
      · skip
        obtain rfl : c = (nC O).toNat := by omega
        refine ev_ald0 83 dX12_average_82 rfl ?_
        refine ev_ald0 84 dX12_average_83 rfl ?_
        refine ev_ild1 85 dX12_average_84 rfl ?_
        refine tc_V1 88 14 dX12_average_85 lkv_X12_158 (tr40 hT) rfl rfl (by first | decide | omega) (Nat.le_of_ble_eq_true rfl) (isStudent_ok hT hO hM (by omega)) ?_
        refine tj_if_ne 95 91 dX12_average_88 (by decide) rfl (by first | exact TR.rng hT _ _ _ | exact R31_of _ | exact bi_R _ | (constructor <;> omega)) (fun c88 => ?_) (fun c88 => ?_)
        · skip
          refine ev_ild3 96 dX12_average_95 rfl ?_
          refine tj_if_ne 103 99 dX12_average_96 (by decide) rfl (by first | exact TR.rng hT _ _ _ | exact R31_of _ | exact bi_R _ | (constructor <;> omega)) (fun c96 => ?_) (fun c96 => ?_)
          · exact False.elim (by omega)
          · skip
            refine tj_iconst 100 dX12_average_99 rfl ?_
            refine ev_goto 104 dX12_average_100 (by decide) ?_
            refine tm_V1 107 14 dX12_average_104 lkv_X12_144 (tr40 hT) rfl rfl (by first | decide | omega) (Nat.le_of_ble_eq_true rfl) (goes_n hT (by omega)) (fun h X1 hT hP104 => ?_)
            have hM1 := hM
            have hM : RM O X1 := by rw [hP104]; exact rm_th hM1 _
            have q0 := rm_nC hM
            have q2 := rm_nS hM
            refine tj_if_eq 118 110 dX12_average_107 (by decide) rfl (by first | exact TR.rng hT _ _ _ | exact R31_of _ | exact bi_R _ | (constructor <;> omega)) (fun c107 => ?_) (fun c107 => ?_)
            · skip
              refine ev_dconst0 119 dX12_average_118 rfl ?_
              exact ev_dreturn ⟨by rfl, _, hT, (by assumption)⟩ rfl dX12_average_119
            · exact False.elim (by omega)
        · exact False.elim (by omega)
      · skip
        have hl2 := lastM_R hO hs (c := c) (by omega)
        have hcr := rm_crd hM c (by omega)
        refine ev_ald0 17 dX12_average_16 rfl ?_
        refine ev_ild1 18 dX12_average_17 rfl ?_
        refine tc_V1 21 14 dX12_average_18 lkv_X12_158 (tr40 hT) rfl rfl (by first | decide | omega) (Nat.le_of_ble_eq_true rfl) (isStudent_ok hT hO hM (by omega)) ?_
        refine tj_if_eq 82 24 dX12_average_21 (by decide) rfl (by first | exact TR.rng hT _ _ _ | exact R31_of _ | exact bi_R _ | (constructor <;> omega)) (fun c21 => ?_) (fun c21 => ?_)
        · exact False.elim (by omega)
        · skip
          refine ev_ald0 25 dX12_average_24 rfl ?_
          refine ev_ild1 26 dX12_average_25 rfl ?_
          refine ev_ild4 28 dX12_average_26 rfl ?_
          refine tc_V2 31 14 dX12_average_28 lkv_X12_227 (tr40 hT) rfl rfl (by first | decide | omega) (Nat.le_of_ble_eq_true rfl) (c_X12_lastMark hT hO hM (by omega) (by omega)) ?_
          refine ev_ist5 33 dX12_average_31 rfl (by decide) rfl ?_
          refine ev_ild2 34 dX12_average_33 rfl ?_
          refine ev_ild5 36 dX12_average_34 rfl ?_
          refine tj_iconst 37 dX12_average_36 rfl ?_
          refine tj_icmp_ne 44 40 dX12_average_37 (by decide) rfl (by first | exact TR.rng hT _ _ _ | exact R31_of _ | exact bi_R _ | (constructor <;> omega)) (by first | exact TR.rng hT _ _ _ | exact R31_of _ | exact bi_R _ | (constructor <;> omega)) (fun c37 => ?_) (fun c37 => ?_)
          · skip
            refine ev_ild5 46 dX12_average_44 rfl ?_
            refine ev_ald0 47 dX12_average_46 rfl ?_
            refine ev_getfield 50 14 4 fl_X12_9_14 (tr40 hT) rfl dX12_average_47 rfl ?_
            refine ev_ild4 52 dX12_average_50 rfl ?_
            refine tv_iald 53 (tr44 hT) (c) (by omega) (by omega) (by omega) dX12_average_52 rfl ?_
            rw [hcr]
            refine tj_imul 54 dX12_average_53 rfl ?_
            refine tj_iadd 55 dX12_average_54 rfl ?_
            refine ev_ist2 56 dX12_average_55 rfl (by decide) rfl ?_
            refine ev_ild3 57 dX12_average_56 rfl ?_
            refine ev_ild5 59 dX12_average_57 rfl ?_
            refine tj_iconst 60 dX12_average_59 rfl ?_
            refine tj_icmp_ne 67 63 dX12_average_60 (by decide) rfl (by first | exact TR.rng hT _ _ _ | exact R31_of _ | exact bi_R _ | (constructor <;> omega)) (by first | exact TR.rng hT _ _ _ | exact R31_of _ | exact bi_R _ | (constructor <;> omega)) (fun c60 => ?_) (fun c60 => ?_)
            · skip
              refine ev_ald0 68 dX12_average_67 rfl ?_
              refine ev_getfield 71 14 4 fl_X12_9_14 (tr40 hT) rfl dX12_average_68 rfl ?_
              refine ev_ild4 73 dX12_average_71 rfl ?_
              refine tv_iald 74 (tr44 hT) (c) (by omega) (by omega) (by omega) dX12_average_73 rfl ?_
              refine tj_iadd 75 dX12_average_74 rfl ?_
              refine ev_ist3 76 dX12_average_75 rfl (by decide) rfl ?_
              refine tj_inc4 79 dX12_average_76 rfl (by decide) rfl ?_
              refine ev_goto 7 dX12_average_79 (by decide) ?_
              exact ih7 (c + 1) _ _ _ _ (by omega) (by first | omega | assumption | omega) (by first | rfl | omega | (first | (exfalso; omega) | (rw [avS, if_pos (show lastM O s c = -1 by omega)]; omega) | (rw [avS, if_neg (show ¬ lastM O s c = -1 by omega)]) | (rw [avW, if_pos (show lastM O s c = -1 by omega)]; omega) | (rw [avW, if_neg (show ¬ lastM O s c = -1 by omega), hcr]))) (by first | rfl | omega | (first | (exfalso; omega) | (rw [avS, if_pos (show lastM O s c = -1 by omega)]; omega) | (rw [avS, if_neg (show ¬ lastM O s c = -1 by omega)]) | (rw [avW, if_pos (show lastM O s c = -1 by omega)]; omega) | (rw [avW, if_neg (show ¬ lastM O s c = -1 by omega), hcr]))) (by first | rfl | omega | (first | (exfalso; omega) | (rw [avS, if_pos (show lastM O s c = -1 by omega)]; omega) | (rw [avS, if_neg (show ¬ lastM O s c = -1 by omega)]) | (rw [avW, if_pos (show lastM O s c = -1 by omega)]; omega) | (rw [avW, if_neg (show ¬ lastM O s c = -1 by omega), hcr])))
            · skip
              refine tj_iconst 64 dX12_average_63 rfl ?_
              refine ev_goto 74 dX12_average_64 (by decide) ?_
              refine tj_iadd 75 dX12_average_74 rfl ?_
              refine ev_ist3 76 dX12_average_75 rfl (by decide) rfl ?_
              refine tj_inc4 79 dX12_average_76 rfl (by decide) rfl ?_
              refine ev_goto 7 dX12_average_79 (by decide) ?_
              exact ih7 (c + 1) _ _ _ _ (by omega) (by first | omega | assumption | omega) (by first | rfl | omega | (first | (exfalso; omega) | (rw [avS, if_pos (show lastM O s c = -1 by omega)]; omega) | (rw [avS, if_neg (show ¬ lastM O s c = -1 by omega)]) | (rw [avW, if_pos (show lastM O s c = -1 by omega)]; omega) | (rw [avW, if_neg (show ¬ lastM O s c = -1 by omega), hcr]))) (by first | rfl | omega | (first | (exfalso; omega) | (rw [avS, if_pos (show lastM O s c = -1 by omega)]; omega) | (rw [avS, if_neg (show ¬ lastM O s c = -1 by omega)]) | (rw [avW, if_pos (show lastM O s c = -1 by omega)]; omega) | (rw [avW, if_neg (show ¬ lastM O s c = -1 by omega), hcr]))) (by first | rfl | omega | (first | (exfalso; omega) | (rw [avS, if_pos (show lastM O s c = -1 by omega)]; omega) | (rw [avS, if_neg (show ¬ lastM O s c = -1 by omega)]) | (rw [avW, if_pos (show lastM O s c = -1 by omega)]; omega) | (rw [avW, if_neg (show ¬ lastM O s c = -1 by omega), hcr])))
          · skip
            refine tj_iconst 41 dX12_average_40 rfl ?_
            refine ev_goto 54 dX12_average_41 (by decide) ?_
            refine tj_iadd 55 dX12_average_54 rfl ?_
            refine ev_ist2 56 dX12_average_55 rfl (by decide) rfl ?_
            refine ev_ild3 57 dX12_average_56 rfl ?_
            refine ev_ild5 59 dX12_average_57 rfl ?_
            refine tj_iconst 60 dX12_average_59 rfl ?_
            refine tj_icmp_ne 67 63 dX12_average_60 (by decide) rfl (by first | exact TR.rng hT _ _ _ | exact R31_of _ | exact bi_R _ | (constructor <;> omega)) (by first | exact TR.rng hT _ _ _ | exact R31_of _ | exact bi_R _ | (constructor <;> omega)) (fun c60 => ?_) (fun c60 => ?_)
            · skip
              refine ev_ald0 68 dX12_average_67 rfl ?_
              refine ev_getfield 71 14 4 fl_X12_9_14 (tr40 hT) rfl dX12_average_68 rfl ?_
              refine ev_ild4 73 dX12_average_71 rfl ?_
              refine tv_iald 74 (tr44 hT) (c) (by omega) (by omega) (by omega) dX12_average_73 rfl ?_
              refine tj_iadd 75 dX12_average_74 rfl ?_
              refine ev_ist3 76 dX12_average_75 rfl (by decide) rfl ?_
              refine tj_inc4 79 dX12_average_76 rfl (by decide) rfl ?_
              refine ev_goto 7 dX12_average_79 (by decide) ?_
              exact ih7 (c + 1) _ _ _ _ (by omega) (by first | omega | assumption | omega) (by first | rfl | omega | (first | (exfalso; omega) | (rw [avS, if_pos (show lastM O s c = -1 by omega)]; omega) | (rw [avS, if_neg (show ¬ lastM O s c = -1 by omega)]) | (rw [avW, if_pos (show lastM O s c = -1 by omega)]; omega) | (rw [avW, if_neg (show ¬ lastM O s c = -1 by omega), hcr]))) (by first | rfl | omega | (first | (exfalso; omega) | (rw [avS, if_pos (show lastM O s c = -1 by omega)]; omega) | (rw [avS, if_neg (show ¬ lastM O s c = -1 by omega)]) | (rw [avW, if_pos (show lastM O s c = -1 by omega)]; omega) | (rw [avW, if_neg (show ¬ lastM O s c = -1 by omega), hcr]))) (by first | rfl | omega | (first | (exfalso; omega) | (rw [avS, if_pos (show lastM O s c = -1 by omega)]; omega) | (rw [avS, if_neg (show ¬ lastM O s c = -1 by omega)]) | (rw [avW, if_pos (show lastM O s c = -1 by omega)]; omega) | (rw [avW, if_neg (show ¬ lastM O s c = -1 by omega), hcr])))
            · skip
              refine tj_iconst 64 dX12_average_63 rfl ?_
              refine ev_goto 74 dX12_average_64 (by decide) ?_
              refine tj_iadd 75 dX12_average_74 rfl ?_
              refine ev_ist3 76 dX12_average_75 rfl (by decide) rfl ?_
              refine tj_inc4 79 dX12_average_76 rfl (by decide) rfl ?_
              refine ev_goto 7 dX12_average_79 (by decide) ?_
              exact ih7 (c + 1) _ _ _ _ (by omega) (by first | omega | assumption | omega) (by first | rfl | omega | (first | (exfalso; omega) | (rw [avS, if_pos (show lastM O s c = -1 by omega)]; omega) | (rw [avS, if_neg (show ¬ lastM O s c = -1 by omega)]) | (rw [avW, if_pos (show lastM O s c = -1 by omega)]; omega) | (rw [avW, if_neg (show ¬ lastM O s c = -1 by omega), hcr]))) (by first | rfl | omega | (first | (exfalso; omega) | (rw [avS, if_pos (show lastM O s c = -1 by omega)]; omega) | (rw [avS, if_neg (show ¬ lastM O s c = -1 by omega)]) | (rw [avW, if_pos (show lastM O s c = -1 by omega)]; omega) | (rw [avW, if_neg (show ¬ lastM O s c = -1 by omega), hcr]))) (by first | rfl | omega | (first | (exfalso; omega) | (rw [avS, if_pos (show lastM O s c = -1 by omega)]; omega) | (rw [avS, if_neg (show ¬ lastM O s c = -1 by omega)]) | (rw [avW, if_pos (show lastM O s c = -1 by omega)]; omega) | (rw [avW, if_neg (show ¬ lastM O s c = -1 by omega), hcr])))
  exact lp7 _ (0) _ _ _ _ (Nat.lt_succ_self _) (by first | omega | assumption | omega) (by first | rfl | omega | (first | (exfalso; omega) | (rw [avS, if_pos (show lastM O s c = -1 by omega)]; omega) | (rw [avS, if_neg (show ¬ lastM O s c = -1 by omega)]) | (rw [avW, if_pos (show lastM O s c = -1 by omega)]; omega) | (rw [avW, if_neg (show ¬ lastM O s c = -1 by omega), hcr]))) (by first | rfl | omega | (first | (exfalso; omega) | (rw [avS, if_pos (show lastM O s c = -1 by omega)]; omega) | (rw [avS, if_neg (show ¬ lastM O s c = -1 by omega)]) | (rw [avW, if_pos (show lastM O s c = -1 by omega)]; omega) | (rw [avW, if_neg (show ¬ lastM O s c = -1 by omega), hcr]))) (by first | rfl | omega | (first | (exfalso; omega) | (rw [avS, if_pos (show lastM O s c = -1 by omega)]; omega) | (rw [avS, if_neg (show ¬ lastM O s c = -1 by omega)]) | (rw [avW, if_pos (show lastM O s c = -1 by omega)]; omega) | (rw [avW, if_neg (show ¬ lastM O s c = -1 by omega), hcr])))
