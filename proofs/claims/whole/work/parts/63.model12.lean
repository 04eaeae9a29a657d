/-! THE REFERENCE: credit moved in -/
theorem cM_mov {g : Gt} {α : AL} {ν : Nat → Nat → Bool} {X : XM} {h : AH} (hT : TR g α ν X h) {O : XM} (hO : WO O) (hM : RM O X) {s : Nat} (hs : (s : Int) < nS O) : Pr g M_X12_creditsOf 1 [.ref (α 40 0), .int (J (X 53 0 s))] h (some (.int (J (movd O s)))) := c_X12_creditsOf hT hO hM (rm_mov hM s hs)
set_option maxRecDepth 100000 in
set_option maxHeartbeats 4000000 in
theorem c_X12_moveIn_b1 {g : Gt} {α : AL} {ν : Nat → Nat → Bool} {X : XM} {h : AH} (hT : TR g α ν X h) {O : XM} (hO : WO O) (hM : RM O X) {b : Int} (hb : R31 b) (hn : ¬ (0 ≤ b ∧ b < nS O)) {a1 : Int} (ha1 : R31 a1) : Mu g α ν M_X12_moveIn 27 [.ref (α 40 0), .int (J b), .int (J a1)] h (some (.int (J (0)))) (fun X' => X' = xs X 40 0 0 1) := by
  refine mu_of rfl rfl (ls := [some (.ref (α 40 0)), some (.int (J b)), some (.int (J a1)), none]) rfl (Nat.le_of_ble_eq_true rfl) ?_
  show Ev g M_X12_moveIn 27 0 [some (.ref (α 40 0)), some (.int (J b)), some (.int (J a1)), none] [] h 0 0 (UQ g α ν (some (.int (J (0)))) (fun X' => X' = xs X 40 0 0 1))
  have q0 := rm_nC hM
  have q1 := wo_nC hO
  have q2 := rm_nS hM
  have q3 := wo_nS hO
  refine ev_ald0 1 dX12_moveIn_0 rfl ?_
  refine ev_ild1 2 dX12_moveIn_1 rfl ?_
  refine tc_V1 5 14 dX12_moveIn_2 lkv_X12_158 (tr40 hT) rfl rfl (by first | decide | omega) (Nat.le_of_ble_eq_true rfl) (isStudent_no hT hO hM hb hn) ?_
  refine tj_if_eq 16 8 dX12_moveIn_5 (by decide) rfl (by first | exact TR.rng hT _ _ _ | exact R31_of _ | exact bi_R _ | (constructor <;> omega)) (fun c5 => ?_) (fun c5 => ?_)
  · skip
    refine tj_iconst 17 dX12_moveIn_16 rfl ?_
    refine ev_goto 34 dX12_moveIn_17 (by decide) ?_
    refine ev_ist3 35 dX12_moveIn_34 rfl (by decide) rfl ?_
    refine ev_ild3 36 dX12_moveIn_35 rfl ?_
    refine tj_if_ne 65 39 dX12_moveIn_36 (by decide) rfl (by first | exact TR.rng hT _ _ _ | exact R31_of _ | exact bi_R _ | (constructor <;> omega)) (fun c36 => ?_) (fun c36 => ?_)
    · skip
      refine ev_ild3 66 dX12_moveIn_65 rfl ?_
      refine ev_ist3 67 dX12_moveIn_66 rfl (by decide) rfl ?_
      refine ev_ald0 68 dX12_moveIn_67 rfl ?_
      refine ev_ild3 69 dX12_moveIn_68 rfl ?_
      refine tm_V1 72 14 dX12_moveIn_69 lkv_X12_144 (tr40 hT) rfl rfl (by first | decide | omega) (Nat.le_of_ble_eq_true rfl) (goes_n hT (by omega)) (fun h X1 hT hP69 => ?_)
      have hM1 := hM
      have hM : RM O X1 := by rw [hP69]; exact rm_th hM1 _
      have q0 := rm_nC hM
      have q2 := rm_nS hM
      refine tj_if_ne 77 75 dX12_moveIn_72 (by decide) rfl (by first | exact TR.rng hT _ _ _ | exact R31_of _ | exact bi_R _ | (constructor <;> omega)) (fun c72 => ?_) (fun c72 => ?_)
      · exact False.elim (by omega)
      · skip
        refine tj_iconst 76 dX12_moveIn_75 rfl ?_
        exact ev_ireturn (uq_i (by first | rfl | omega | exact bi_dt (by omega) | exact bi_df (by omega) | (skip)) hT (by assumption)) rfl dX12_moveIn_76
    · exact False.elim (by omega)
  · exact False.elim (by omega)
set_option maxRecDepth 100000 in
set_option maxHeartbeats 4000000 in
theorem c_X12_moveIn_b2 {g : Gt} {α : AL} {ν : Nat → Nat → Bool} {X : XM} {h : AH} (hT : TR g α ν X h) {O : XM} (hO : WO O) (hM : RM O X) {s : Nat} (hs : (s : Int) < nS O) {b : Int} (hb : R31 b) (hn : ¬ (0 ≤ b ∧ b < nC O)) : Mu g α ν M_X12_moveIn 27 [.ref (α 40 0), .int (J (s : Int)), .int (J b)] h (some (.int (J (0)))) (fun X' => X' = xs X 40 0 0 1) := by
  refine mu_of rfl rfl (ls := [some (.ref (α 40 0)), some (.int (J (s : Int))), some (.int (J b)), none]) rfl (Nat.le_of_ble_eq_true rfl) ?_
  show Ev g M_X12_moveIn 27 0 [some (.ref (α 40 0)), some (.int (J (s : Int))), some (.int (J b)), none] [] h 0 0 (UQ g α ν (some (.int (J (0)))) (fun X' => X' = xs X 40 0 0 1))
  have q0 := rm_nC hM
  have q1 := wo_nC hO
  have q2 := rm_nS hM
  have q3 := wo_nS hO
  refine ev_ald0 1 dX12_moveIn_0 rfl ?_
  refine ev_ild1 2 dX12_moveIn_1 rfl ?_
  refine tc_V1 5 14 dX12_moveIn_2 lkv_X12_158 (tr40 hT) rfl rfl (by first | decide | omega) (Nat.le_of_ble_eq_true rfl) (isStudent_ok hT hO hM (by omega)) ?_
  refine tj_if_eq 16 8 dX12_moveIn_5 (by decide) rfl (by first | exact TR.rng hT _ _ _ | exact R31_of _ | exact bi_R _ | (constructor <;> omega)) (fun c5 => ?_) (fun c5 => ?_)
  · exact False.elim (by omega)
  · skip
    refine ev_ald0 9 dX12_moveIn_8 rfl ?_
    refine ev_ild2 10 dX12_moveIn_9 rfl ?_
    refine tc_V1 13 14 dX12_moveIn_10 lkv_X12_151 (tr40 hT) rfl rfl (by first | decide | omega) (Nat.le_of_ble_eq_true rfl) (isCourse_no hT hO hM hb hn) ?_
    refine tj_if_ne 20 16 dX12_moveIn_13 (by decide) rfl (by first | exact TR.rng hT _ _ _ | exact R31_of _ | exact bi_R _ | (constructor <;> omega)) (fun c13 => ?_) (fun c13 => ?_)
    · exact False.elim (by omega)
    · skip
      refine tj_iconst 17 dX12_moveIn_16 rfl ?_
      refine ev_goto 34 dX12_moveIn_17 (by decide) ?_
      refine ev_ist3 35 dX12_moveIn_34 rfl (by decide) rfl ?_
      refine ev_ild3 36 dX12_moveIn_35 rfl ?_
      refine tj_if_ne 65 39 dX12_moveIn_36 (by decide) rfl (by first | exact TR.rng hT _ _ _ | exact R31_of _ | exact bi_R _ | (constructor <;> omega)) (fun c36 => ?_) (fun c36 => ?_)
      · skip
        refine ev_ild3 66 dX12_moveIn_65 rfl ?_
        refine ev_ist3 67 dX12_moveIn_66 rfl (by decide) rfl ?_
        refine ev_ald0 68 dX12_moveIn_67 rfl ?_
        refine ev_ild3 69 dX12_moveIn_68 rfl ?_
        refine tm_V1 72 14 dX12_moveIn_69 lkv_X12_144 (tr40 hT) rfl rfl (by first | decide | omega) (Nat.le_of_ble_eq_true rfl) (goes_n hT (by omega)) (fun h X1 hT hP69 => ?_)
        have hM1 := hM
        have hM : RM O X1 := by rw [hP69]; exact rm_th hM1 _
        have q0 := rm_nC hM
        have q2 := rm_nS hM
        refine tj_if_ne 77 75 dX12_moveIn_72 (by decide) rfl (by first | exact TR.rng hT _ _ _ | exact R31_of _ | exact bi_R _ | (constructor <;> omega)) (fun c72 => ?_) (fun c72 => ?_)
        · exact False.elim (by omega)
        · skip
          refine tj_iconst 76 dX12_moveIn_75 rfl ?_
          exact ev_ireturn (uq_i (by first | rfl | omega | exact bi_dt (by omega) | exact bi_df (by omega) | (skip)) hT (by assumption)) rfl dX12_moveIn_76
      · exact False.elim (by omega)
set_option maxRecDepth 100000 in
set_option maxHeartbeats 4000000 in
theorem c_X12_moveIn_x2 {g : Gt} {α : AL} {ν : Nat → Nat → Bool} {X : XM} {h : AH} (hT : TR g α ν X h) {O : XM} (hO : WO O) (hM : RM O X) {s : Nat} (hs : (s : Int) < nS O) {c : Nat} (hc : (c : Int) < nC O) (hb : 50 ≤ O 8 s c) : Mu g α ν M_X12_moveIn 27 [.ref (α 40 0), .int (J (s : Int)), .int (J (c : Int))] h (some (.int (J (0)))) (fun X' => X' = xs X 40 0 0 2) := by
  refine mu_of rfl rfl (ls := [some (.ref (α 40 0)), some (.int (J (s : Int))), some (.int (J (c : Int))), none]) rfl (Nat.le_of_ble_eq_true rfl) ?_
  show Ev g M_X12_moveIn 27 0 [some (.ref (α 40 0)), some (.int (J (s : Int))), some (.int (J (c : Int))), none] [] h 0 0 (UQ g α ν (some (.int (J (0)))) (fun X' => X' = xs X 40 0 0 2))
  have q0 := rm_nC hM
  have q1 := wo_nC hO
  have q2 := rm_nS hM
  have q3 := wo_nS hO
  have ps : psd O s c = decide (50 ≤ O 8 s c) := rfl
  have qcr := wo_crd hO c hc
  have qcm := rm_crd hM c hc
  have qm : 0 ≤ movd O s ∧ movd O s ≤ 6 * ((nC O).toNat : Int) := crS_0 hO (mvd O s) (nC O).toNat (by omega)
  rw [decide_eq_true hb] at ps
  refine ev_ald0 1 dX12_moveIn_0 rfl ?_
  refine ev_ild1 2 dX12_moveIn_1 rfl ?_
  refine tc_V1 5 14 dX12_moveIn_2 lkv_X12_158 (tr40 hT) rfl rfl (by first | decide | omega) (Nat.le_of_ble_eq_true rfl) (isStudent_ok hT hO hM (by omega)) ?_
  refine tj_if_eq 16 8 dX12_moveIn_5 (by decide) rfl (by first | exact TR.rng hT _ _ _ | exact R31_of _ | exact bi_R _ | (constructor <;> omega)) (fun c5 => ?_) (fun c5 => ?_)
  · exact False.elim (by omega)
  · skip
    refine ev_ald0 9 dX12_moveIn_8 rfl ?_
    refine ev_ild2 10 dX12_moveIn_9 rfl ?_
    refine tc_V1 13 14 dX12_moveIn_10 lkv_X12_151 (tr40 hT) rfl rfl (by first | decide | omega) (Nat.le_of_ble_eq_true rfl) (isCourse_ok hT hO hM (by omega)) ?_
    refine tj_if_ne 20 16 dX12_moveIn_13 (by decide) rfl (by first | exact TR.rng hT _ _ _ | exact R31_of _ | exact bi_R _ | (constructor <;> omega)) (fun c13 => ?_) (fun c13 => ?_)
    · skip
      refine ev_ald0 21 dX12_moveIn_20 rfl ?_
      refine ev_ild1 22 dX12_moveIn_21 rfl ?_
      refine ev_ild2 23 dX12_moveIn_22 rfl ?_
      refine tc_V2 26 14 dX12_moveIn_23 lkv_X12_117 (tr40 hT) rfl rfl (by first | decide | omega) (Nat.le_of_ble_eq_true rfl) (c_X12_hasPassed hT hO hM (by omega) (by omega)) ?_
      refine tb_if_eq 33 29 dX12_moveIn_26 (by decide) rfl (fun c26 => ?_) (fun c26 => ?_)
      · exact False.elim (Bool.false_ne_true (c26.symm.trans ps))
      · skip
        refine tj_iconst 30 dX12_moveIn_29 rfl ?_
        refine ev_goto 34 dX12_moveIn_30 (by decide) ?_
        refine ev_ist3 35 dX12_moveIn_34 rfl (by decide) rfl ?_
        refine ev_ild3 36 dX12_moveIn_35 rfl ?_
        refine tj_if_ne 65 39 dX12_moveIn_36 (by decide) rfl (by first | exact TR.rng hT _ _ _ | exact R31_of _ | exact bi_R _ | (constructor <;> omega)) (fun c36 => ?_) (fun c36 => ?_)
        · skip
          refine ev_ild3 66 dX12_moveIn_65 rfl ?_
          refine ev_ist3 67 dX12_moveIn_66 rfl (by decide) rfl ?_
          refine ev_ald0 68 dX12_moveIn_67 rfl ?_
          refine ev_ild3 69 dX12_moveIn_68 rfl ?_
          refine tm_V1 72 14 dX12_moveIn_69 lkv_X12_144 (tr40 hT) rfl rfl (by first | decide | omega) (Nat.le_of_ble_eq_true rfl) (goes_n hT (by omega)) (fun h X1 hT hP69 => ?_)
          have hM1 := hM
          have hM : RM O X1 := by rw [hP69]; exact rm_th hM1 _
          have q0 := rm_nC hM
          have q2 := rm_nS hM
          refine tj_if_ne 77 75 dX12_moveIn_72 (by decide) rfl (by first | exact TR.rng hT _ _ _ | exact R31_of _ | exact bi_R _ | (constructor <;> omega)) (fun c72 => ?_) (fun c72 => ?_)
          · exact False.elim (by omega)
          · skip
            refine tj_iconst 76 dX12_moveIn_75 rfl ?_
            exact ev_ireturn (uq_i (by first | rfl | omega | exact bi_dt (by omega) | exact bi_df (by omega) | (skip)) hT (by assumption)) rfl dX12_moveIn_76
        · exact False.elim (by omega)
    · exact False.elim (by omega)
set_option maxRecDepth 100000 in
set_option maxHeartbeats 4000000 in
theorem c_X12_moveIn_x3 {g : Gt} {α : AL} {ν : Nat → Nat → Bool} {X : XM} {h : AH} (hT : TR g α ν X h) {O : XM} (hO : WO O) (hM : RM O X) {s : Nat} (hs : (s : Int) < nS O) {c : Nat} (hc : (c : Int) < nC O) (hb : O 8 s c < 50) (hm : 12 < movd O s + O 12 c 1) : Mu g α ν M_X12_moveIn 27 [.ref (α 40 0), .int (J (s : Int)), .int (J (c : Int))] h (some (.int (J (0)))) (fun X' => X' = xs X 40 0 0 3) := by
  refine mu_of rfl rfl (ls := [some (.ref (α 40 0)), some (.int (J (s : Int))), some (.int (J (c : Int))), none]) rfl (Nat.le_of_ble_eq_true rfl) ?_
  show Ev g M_X12_moveIn 27 0 [some (.ref (α 40 0)), some (.int (J (s : Int))), some (.int (J (c : Int))), none] [] h 0 0 (UQ g α ν (some (.int (J (0)))) (fun X' => X' = xs X 40 0 0 3))
  have q0 := rm_nC hM
  have q1 := wo_nC hO
  have q2 := rm_nS hM
  have q3 := wo_nS hO
  have ps : psd O s c = decide (50 ≤ O 8 s c) := rfl
  have qcr := wo_crd hO c hc
  have qcm := rm_crd hM c hc
  have qm : 0 ≤ movd O s ∧ movd O s ≤ 6 * ((nC O).toNat : Int) := crS_0 hO (mvd O s) (nC O).toNat (by omega)
  have ps2 : psd O s c = false := decide_eq_false (by omega)
  refine ev_ald0 1 dX12_moveIn_0 rfl ?_
  refine ev_ild1 2 dX12_moveIn_1 rfl ?_
  refine tc_V1 5 14 dX12_moveIn_2 lkv_X12_158 (tr40 hT) rfl rfl (by first | decide | omega) (Nat.le_of_ble_eq_true rfl) (isStudent_ok hT hO hM (by omega)) ?_
  refine tj_if_eq 16 8 dX12_moveIn_5 (by decide) rfl (by first | exact TR.rng hT _ _ _ | exact R31_of _ | exact bi_R _ | (constructor <;> omega)) (fun c5 => ?_) (fun c5 => ?_)
  · exact False.elim (by omega)
  · skip
    refine ev_ald0 9 dX12_moveIn_8 rfl ?_
    refine ev_ild2 10 dX12_moveIn_9 rfl ?_
    refine tc_V1 13 14 dX12_moveIn_10 lkv_X12_151 (tr40 hT) rfl rfl (by first | decide | omega) (Nat.le_of_ble_eq_true rfl) (isCourse_ok hT hO hM (by omega)) ?_
    refine tj_if_ne 20 16 dX12_moveIn_13 (by decide) rfl (by first | exact TR.rng hT _ _ _ | exact R31_of _ | exact bi_R _ | (constructor <;> omega)) (fun c13 => ?_) (fun c13 => ?_)
    · skip
      refine ev_ald0 21 dX12_moveIn_20 rfl ?_
      refine ev_ild1 22 dX12_moveIn_21 rfl ?_
      refine ev_ild2 23 dX12_moveIn_22 rfl ?_
      refine tc_V2 26 14 dX12_moveIn_23 lkv_X12_117 (tr40 hT) rfl rfl (by first | decide | omega) (Nat.le_of_ble_eq_true rfl) (c_X12_hasPassed hT hO hM (by omega) (by omega)) ?_
      refine tb_if_eq 33 29 dX12_moveIn_26 (by decide) rfl (fun c26 => ?_) (fun c26 => ?_)
      · skip
        refine tj_iconst 34 dX12_moveIn_33 rfl ?_
        refine ev_ist3 35 dX12_moveIn_34 rfl (by decide) rfl ?_
        refine ev_ild3 36 dX12_moveIn_35 rfl ?_
        refine tj_if_ne 65 39 dX12_moveIn_36 (by decide) rfl (by first | exact TR.rng hT _ _ _ | exact R31_of _ | exact bi_R _ | (constructor <;> omega)) (fun c36 => ?_) (fun c36 => ?_)
        · exact False.elim (by omega)
        · skip
          refine ev_ald0 40 dX12_moveIn_39 rfl ?_
          refine ev_ald0 41 dX12_moveIn_40 rfl ?_
          refine ev_getfield 44 14 13 fl_X12_34_14 (tr40 hT) rfl dX12_moveIn_41 rfl ?_
          refine ev_ild1 45 dX12_moveIn_44 rfl ?_
          refine tv_iald 46 (tr53 hT) (s) (by omega) (by omega) (by omega) dX12_moveIn_45 rfl ?_
          refine tc_V1 49 14 dX12_moveIn_46 lkv_X12_123 (tr40 hT) rfl rfl (by first | decide | omega) (Nat.le_of_ble_eq_true rfl) (cM_mov hT hO hM hs) ?_
          refine ev_ald0 50 dX12_moveIn_49 rfl ?_
          refine ev_getfield 53 14 4 fl_X12_9_14 (tr40 hT) rfl dX12_moveIn_50 rfl ?_
          refine ev_ild2 54 dX12_moveIn_53 rfl ?_
          refine tv_iald 55 (tr44 hT) (c) (by omega) (by omega) (by omega) dX12_moveIn_54 rfl ?_
          refine tj_iadd 56 dX12_moveIn_55 rfl ?_
          refine tj_bipush 58 dX12_moveIn_56 (by decide) rfl ?_
          refine tj_icmp_le 65 61 dX12_moveIn_58 (by decide) rfl (by first | exact TR.rng hT _ _ _ | exact R31_of _ | exact bi_R _ | (constructor <;> omega)) (by first | exact TR.rng hT _ _ _ | exact R31_of _ | exact bi_R _ | (constructor <;> omega)) (fun c58 => ?_) (fun c58 => ?_)
          · exact False.elim (by omega)
          · skip
            refine tj_iconst 62 dX12_moveIn_61 rfl ?_
            refine ev_goto 66 dX12_moveIn_62 (by decide) ?_
            refine ev_ist3 67 dX12_moveIn_66 rfl (by decide) rfl ?_
            refine ev_ald0 68 dX12_moveIn_67 rfl ?_
            refine ev_ild3 69 dX12_moveIn_68 rfl ?_
            refine tm_V1 72 14 dX12_moveIn_69 lkv_X12_144 (tr40 hT) rfl rfl (by first | decide | omega) (Nat.le_of_ble_eq_true rfl) (goes_n hT (by omega)) (fun h X1 hT hP69 => ?_)
            have hM1 := hM
            have hM : RM O X1 := by rw [hP69]; exact rm_th hM1 _
            have q0 := rm_nC hM
            have q2 := rm_nS hM
            refine tj_if_ne 77 75 dX12_moveIn_72 (by decide) rfl (by first | exact TR.rng hT _ _ _ | exact R31_of _ | exact bi_R _ | (constructor <;> omega)) (fun c72 => ?_) (fun c72 => ?_)
            · exact False.elim (by omega)
            · skip
              refine tj_iconst 76 dX12_moveIn_75 rfl ?_
              exact ev_ireturn (uq_i (by first | rfl | omega | exact bi_dt (by omega) | exact bi_df (by omega) | (skip)) hT (by assumption)) rfl dX12_moveIn_76
      · exact False.elim (Bool.false_ne_true (ps2.symm.trans c26))
    · exact False.elim (by omega)
set_option maxRecDepth 100000 in
set_option maxHeartbeats 4000000 in
theorem c_X12_moveIn_ok {g : Gt} {α : AL} {ν : Nat → Nat → Bool} {X : XM} {h : AH} (hT : TR g α ν X h) {O : XM} (hO : WO O) (hM : RM O X) {s : Nat} (hs : (s : Int) < nS O) {c : Nat} (hc : (c : Int) < nC O) (hb : O 8 s c < 50) (hm : movd O s + O 12 c 1 ≤ 12) : Mu g α ν M_X12_moveIn 27 [.ref (α 40 0), .int (J (s : Int)), .int (J (c : Int))] h (some (.int (J (movd O s + O 12 c 1)))) (fun X' => RM (gv (mv O s c)) X' ∧ CZ X X' 0) := by
  refine mu_of rfl rfl (ls := [some (.ref (α 40 0)), some (.int (J (s : Int))), some (.int (J (c : Int))), none]) rfl (Nat.le_of_ble_eq_true rfl) ?_
  show Ev g M_X12_moveIn 27 0 [some (.ref (α 40 0)), some (.int (J (s : Int))), some (.int (J (c : Int))), none] [] h 0 0 (UQ g α ν (some (.int (J (movd O s + O 12 c 1)))) (fun X' => RM (gv (mv O s c)) X' ∧ CZ X X' 0))
  have q0 := rm_nC hM
  have q1 := wo_nC hO
  have q2 := rm_nS hM
  have q3 := wo_nS hO
  have ps : psd O s c = decide (50 ≤ O 8 s c) := rfl
  have qcr := wo_crd hO c hc
  have qcm := rm_crd hM c hc
  have qm : 0 ≤ movd O s ∧ movd O s ≤ 6 * ((nC O).toNat : Int) := crS_0 hO (mvd O s) (nC O).toNat (by omega)
  have ps2 : psd O s c = false := decide_eq_false (by omega)
  refine ev_ald0 1 dX12_moveIn_0 rfl ?_
  refine ev_ild1 2 dX12_moveIn_1 rfl ?_
  refine tc_V1 5 14 dX12_moveIn_2 lkv_X12_158 (tr40 hT) rfl rfl (by first | decide | omega) (Nat.le_of_ble_eq_true rfl) (isStudent_ok hT hO hM (by omega)) ?_
  refine tj_if_eq 16 8 dX12_moveIn_5 (by decide) rfl (by first | exact TR.rng hT _ _ _ | exact R31_of _ | exact bi_R _ | (constructor <;> omega)) (fun c5 => ?_) (fun c5 => ?_)
  · exact False.elim (by omega)
  · skip
    refine ev_ald0 9 dX12_moveIn_8 rfl ?_
    refine ev_ild2 10 dX12_moveIn_9 rfl ?_
    refine tc_V1 13 14 dX12_moveIn_10 lkv_X12_151 (tr40 hT) rfl rfl (by first | decide | omega) (Nat.le_of_ble_eq_true rfl) (isCourse_ok hT hO hM (by omega)) ?_
    refine tj_if_ne 20 16 dX12_moveIn_13 (by decide) rfl (by first | exact TR.rng hT _ _ _ | exact R31_of _ | exact bi_R _ | (constructor <;> omega)) (fun c13 => ?_) (fun c13 => ?_)
    · skip
      refine ev_ald0 21 dX12_moveIn_20 rfl ?_
      refine ev_ild1 22 dX12_moveIn_21 rfl ?_
      refine ev_ild2 23 dX12_moveIn_22 rfl ?_
      refine tc_V2 26 14 dX12_moveIn_23 lkv_X12_117 (tr40 hT) rfl rfl (by first | decide | omega) (Nat.le_of_ble_eq_true rfl) (c_X12_hasPassed hT hO hM (by omega) (by omega)) ?_
      refine tb_if_eq 33 29 dX12_moveIn_26 (by decide) rfl (fun c26 => ?_) (fun c26 => ?_)
      · skip
        refine tj_iconst 34 dX12_moveIn_33 rfl ?_
        refine ev_ist3 35 dX12_moveIn_34 rfl (by decide) rfl ?_
        refine ev_ild3 36 dX12_moveIn_35 rfl ?_
        refine tj_if_ne 65 39 dX12_moveIn_36 (by decide) rfl (by first | exact TR.rng hT _ _ _ | exact R31_of _ | exact bi_R _ | (constructor <;> omega)) (fun c36 => ?_) (fun c36 => ?_)
        · exact False.elim (by omega)
        · skip
          refine ev_ald0 40 dX12_moveIn_39 rfl ?_
          refine ev_ald0 41 dX12_moveIn_40 rfl ?_
          refine ev_getfield 44 14 13 fl_X12_34_14 (tr40 hT) rfl dX12_moveIn_41 rfl ?_
          refine ev_ild1 45 dX12_moveIn_44 rfl ?_
          refine tv_iald 46 (tr53 hT) (s) (by omega) (by omega) (by omega) dX12_moveIn_45 rfl ?_
          refine tc_V1 49 14 dX12_moveIn_46 lkv_X12_123 (tr40 hT) rfl rfl (by first | decide | omega) (Nat.le_of_ble_eq_true rfl) (cM_mov hT hO hM hs) ?_
          refine ev_ald0 50 dX12_moveIn_49 rfl ?_
          refine ev_getfield 53 14 4 fl_X12_9_14 (tr40 hT) rfl dX12_moveIn_50 rfl ?_
          refine ev_ild2 54 dX12_moveIn_53 rfl ?_
          refine tv_iald 55 (tr44 hT) (c) (by omega) (by omega) (by omega) dX12_moveIn_54 rfl ?_
          refine tj_iadd 56 dX12_moveIn_55 rfl ?_
          refine tj_bipush 58 dX12_moveIn_56 (by decide) rfl ?_
          refine tj_icmp_le 65 61 dX12_moveIn_58 (by decide) rfl (by first | exact TR.rng hT _ _ _ | exact R31_of _ | exact bi_R _ | (constructor <;> omega)) (by first | exact TR.rng hT _ _ _ | exact R31_of _ | exact bi_R _ | (constructor <;> omega)) (fun c58 => ?_) (fun c58 => ?_)
          · skip
            refine ev_ild3 66 dX12_moveIn_65 rfl ?_
            refine ev_ist3 67 dX12_moveIn_66 rfl (by decide) rfl ?_
            refine ev_ald0 68 dX12_moveIn_67 rfl ?_
            refine ev_ild3 69 dX12_moveIn_68 rfl ?_
            refine tm_V1 72 14 dX12_moveIn_69 lkv_X12_144 (tr40 hT) rfl rfl (by first | decide | omega) (Nat.le_of_ble_eq_true rfl) (goes_0 hT) (fun h X1 hT hP69 => ?_)
            have hM1 := hM
            have hM : RM O X1 := by rw [hP69]; exact rm_th hM1 _
            have q0 := rm_nC hM
            have q2 := rm_nS hM
            refine tj_if_ne 77 75 dX12_moveIn_72 (by decide) rfl (by first | exact TR.rng hT _ _ _ | exact R31_of _ | exact bi_R _ | (constructor <;> omega)) (fun c72 => ?_) (fun c72 => ?_)
            · skip
              have t3 := (rm_mov hM s hs).1
              refine ev_ald0 78 dX12_moveIn_77 rfl ?_
              refine ev_getfield 81 14 13 fl_X12_34_14 (tr40 hT) rfl dX12_moveIn_78 rfl ?_
              refine ev_ild1 82 dX12_moveIn_81 rfl ?_
              refine ev_dup2 83 dX12_moveIn_82 rfl rfl rfl ?_
              refine tv_iald 84 (tr53 hT) (s) (by omega) (by omega) (by omega) dX12_moveIn_83 rfl ?_
              refine tj_iconst 85 dX12_moveIn_84 rfl ?_
              refine ev_ild2 86 dX12_moveIn_85 rfl ?_
              refine tj_ishl 87 dX12_moveIn_86 1 c rfl rfl (by omega) rfl ?_
              refine tj_ior 88 dX12_moveIn_87 (X1 53 0 s).toNat (1 <<< c) (by omega) rfl rfl ?_
              have hbs := bitsE_set (rm_mov hM s hs) (c := c) (by omega) (f2 := mv O s c 6 s) (by rw [mv_6, if_pos ⟨rfl, rfl⟩]; decide) (fun j hj => by rw [mv_6, if_neg (by omega)])
              have hb1 := hbs.1
              have hb2 := hbs.2.1
              refine tv_iast 89 hT (tv53 hT) (fun _ => rfl) (s) (by omega) (by omega) (by omega) (by first | exact TR.rng hT _ _ _ | exact R31_of _ | exact bi_R _ | (constructor <;> omega)) dX12_moveIn_88 rfl (fun h hT => ?_)
              obtain ⟨X3, hX3⟩ : ∃ Z, Z = xs X1 53 0 s (((X1 53 0 s).toNat ||| 1 <<< c : Nat) : Int) := ⟨_, rfl⟩
              rw [← hX3] at hT
              have hM3 : RM (mv O s c) X3 := by rw [hX3]; exact rm_mv hM hs (by omega) (by omega) (fun k _ _ q => xs_nk q) (fun j => xs_at _ _ _ _ _ _)
              have hO3 := wo_mv hO hs hc hb
              refine ev_ald0 90 dX12_moveIn_89 rfl ?_
              refine tmv_V0 93 14 dX12_moveIn_90 lkv_X12_193 (tr40 hT) rfl rfl (by first | decide | omega) (Nat.le_of_ble_eq_true rfl) (c_X12_givesOut hT hO3 hM3) (fun h X1 hT hP90 => ?_)
              have hMg := hP90.1
              have hsg : (s : Int) < nS (gv (mv O s c)) := by unfold nS; rw [gv_l (by decide), mv_k (by decide) (by decide)]; exact hs
              refine ev_ald0 94 dX12_moveIn_93 rfl ?_
              refine ev_ald0 95 dX12_moveIn_94 rfl ?_
              refine ev_getfield 98 14 13 fl_X12_34_14 (tr40 hT) rfl dX12_moveIn_95 rfl ?_
              refine ev_ild1 99 dX12_moveIn_98 rfl ?_
              refine tv_iald 100 (tr53 hT) (s) (by omega) (by omega) (by omega) dX12_moveIn_99 rfl ?_
              refine tc_V1 103 14 dX12_moveIn_100 lkv_X12_123 (tr40 hT) rfl rfl (by first | decide | omega) (Nat.le_of_ble_eq_true rfl) (cM_mov hT (wo_gv hO3) hMg hsg) ?_
              exact ev_ireturn (uq_i (by first | rfl | omega | exact bi_dt (by omega) | exact bi_df (by omega) | (rw [movd_gv, movd_mv hO hs hc hb])) hT (by exact ⟨hMg, CZ.fm (by rw [hX3, hP69]; exact (CZ.go X 0).st (by decide)) hP90.2⟩)) rfl dX12_moveIn_103
            · exact False.elim (by omega)
          · exact False.elim (by omega)
      · exact False.elim (Bool.false_ne_true (ps2.symm.trans c26))
    · exact False.elim (by omega)
