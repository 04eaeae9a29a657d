/-! THE LAW ASKS FOR FORMULAS -/
def pw3 : Nat → Nat
  | 0 => 1
  | n + 1 => 3 * pw3 n
theorem pw3_pos : ∀ n, 1 ≤ pw3 n
  | 0 => Nat.le_refl 1
  | n + 1 => by have := pw3_pos n; show 1 ≤ 3 * pw3 n; omega
section HOL
variable {X : XM} {s f : Nat}
theorem hol_ev (hO : WO X) (hf : (f : Int) < nF X) : hol X s f = evF X (X 8 s) (tak X s) (ernd X s) f (fun p => hol X s p) := holF_ev hO hf
theorem hol_k0 (hO : WO X) (hf : (f : Int) < nF X) (k9 : X 16 f 9 = 0) {c : Nat} (hc : X 16 f 1 = (c : Int)) : hol X s f = decide (X 16 f 2 ≤ X 8 s c) := by
  rw [hol_ev hO hf]
  unfold evF
  rw [if_pos k9, hc, Int.toNat_natCast]
theorem hol_k1 (hO : WO X) (hf : (f : Int) < nF X) (k9 : X 16 f 9 = 1) {c : Nat} (hc : X 16 f 1 = (c : Int)) : hol X s f = (tak X s c || decide (50 ≤ X 8 s c)) := by
  rw [hol_ev hO hf]
  unfold evF
  rw [if_neg (by omega), if_pos k9, hc, Int.toNat_natCast]
theorem hol_k2 (hO : WO X) (hf : (f : Int) < nF X) (k9 : X 16 f 9 = 2) : hol X s f = decide (X 16 f 1 ≤ ernd X s) := by
  rw [hol_ev hO hf]
  unfold evF
  rw [if_neg (by omega), if_neg (by omega), if_pos k9]
theorem hol_k3 (hO : WO X) (hf : (f : Int) < nF X) (k9 : X 16 f 9 = 3) {p q : Nat} (hp : X 16 f 2 = (p : Int)) (hq : X 16 f 3 = (q : Int)) : hol X s f = decide (X 16 f 1 ≤ bi (hol X s p) + bi (hol X s q) + bi (decide (X 16 f 4 ≠ -1) && hol X s (X 16 f 4).toNat)) := by
  rw [hol_ev hO hf]
  unfold evF
  rw [if_neg (by omega), if_neg (by omega), if_neg (by omega), if_pos k9, hp, hq, Int.toNat_natCast, Int.toNat_natCast]
theorem hol_all (hO : WO X) (hf : (f : Int) < nF X) (k9 : X 16 f 9 = 3) (k1 : X 16 f 1 = 2) (k4 : X 16 f 4 = -1) {p q : Nat} (hp : X 16 f 2 = (p : Int)) (hq : X 16 f 3 = (q : Int)) : hol X s f = (hol X s p && hol X s q) := by
  rw [hol_k3 hO hf k9 hp hq, k1, k4]
  cases hol X s p <;> cases hol X s q <;> simp [bi]
theorem hol_any (hO : WO X) (hf : (f : Int) < nF X) (k9 : X 16 f 9 = 3) (k1 : X 16 f 1 = 1) (k4 : X 16 f 4 = -1) {p q : Nat} (hp : X 16 f 2 = (p : Int)) (hq : X 16 f 3 = (q : Int)) : hol X s f = (hol X s p || hol X s q) := by
  rw [hol_k3 hO hf k9 hp hq, k1, k4]
  cases hol X s p <;> cases hol X s q <;> simp [bi]
theorem hol_two (hO : WO X) (hf : (f : Int) < nF X) (k9 : X 16 f 9 = 3) (k1 : X 16 f 1 = 2) {p q r : Nat} (hp : X 16 f 2 = (p : Int)) (hq : X 16 f 3 = (q : Int)) (hr : X 16 f 4 = (r : Int)) : hol X s f = decide (2 ≤ bi (hol X s p) + bi (hol X s q) + bi (hol X s r)) := by
  rw [hol_k3 hO hf k9 hp hq, k1, hr, Int.toNat_natCast, decide_eq_true (show ((r : Nat) : Int) ≠ -1 by omega), Bool.true_and]
theorem hol_k4 (hO : WO X) (hf : (f : Int) < nF X) (k9 : X 16 f 9 = 4) {p : Nat} (hp : X 16 f 1 = (p : Int)) : hol X s f = !(hol X s p) := by
  rw [hol_ev hO hf]
  unfold evF
  rw [if_neg (by omega), if_neg (by omega), if_neg (by omega), if_neg (by omega), hp, Int.toNat_natCast]
end HOL
set_option maxRecDepth 100000 in
set_option maxHeartbeats 4000000 in
theorem c_X12_holds {g : Gt} {α : AL} {ν : Nat → Nat → Bool} {X : XM} {h : AH} (hT : TR g α ν X h) (hW : WX ν X) (hO : OFF X) (hTL : TLD X) {s : Nat} (hs : s < 5) : ∀ (n f : Nat), (f : Int) < nF X → X 16 f 0 < (n : Int) → Ct g M_X12_holds (31 + n) [.ref (α 40 0), .ref (α 0 0), .int (J (f : Int)), .int (J (s : Int))] h (pw3 n) (6 * pw3 n) (PQ (some (.int (J (bi (hol X s f))))) h) := by
  obtain ⟨eC, eS, eF⟩ := id hO
  intro n
  induction n with
  | zero => intro f hf hd; have := wo_dp0 hW.1 f; omega
  | succ n ih =>
    intro f hf hd
    refine ct_of_ev rfl rfl (ls := [some (.ref (α 40 0)), some (.ref (α 0 0)), some (.int (J (f : Int))), some (.int (J (s : Int))), none]) rfl (Nat.le_of_ble_eq_true rfl) ?_
    show Ev g M_X12_holds (31 + (n + 1)) 0 [some (.ref (α 40 0)), some (.ref (α 0 0)), some (.int (J (f : Int))), some (.int (J (s : Int))), none] [] h (pw3 (n + 1)) (6 * pw3 (n + 1)) (PQ (some (.int (J (bi (hol X s f))))) h)
    have he := crS_0 hW.1 (psd X s) (nC X).toNat (by omega)
    have he2 : ernd X s = crS X (psd X s) (nC X).toNat := rfl
    have hp3 : pw3 (n + 1) = 3 * pw3 n := rfl
    have hp1 := pw3_pos n
    obtain ⟨hk, h0, h1, h2, h3, h4, h5, h6⟩ := hTL.2.2 f (by omega)
    refine ev_ald0 1 dX12_holds_0 rfl ?_
    refine ev_getfield 4 14 0 fl_X12_9_14 (tr40 hT) rfl dX12_holds_1 rfl ?_
    refine ev_ild2 5 dX12_holds_4 rfl ?_
    refine tv_iald 6 (tr41 hT) (f) (by omega) (by omega) (by omega) dX12_holds_5 rfl ?_
    rcases (show X 41 0 f = 0 ∨ X 41 0 f = 1 ∨ X 41 0 f = 2 ∨ X 41 0 f = 3 ∨ X 41 0 f = 4 ∨ X 41 0 f = 5 ∨ X 41 0 f = 6 by omega) with c6 | c6 | c6 | c6 | c6 | c6 | c6
    · skip
      obtain ⟨k9, k1, k2⟩ := h0 c6
      have b := wo_f0 hW.1 f hf k9
      obtain ⟨c, hc⟩ : ∃ c : Nat, X 42 0 f = (c : Int) := ⟨(X 42 0 f).toNat, by omega⟩
      refine ev_tswIn 0 44 dX12_holds_6 (by omega) rfl (by decide) (by first | exact TR.rng hT _ _ _ | exact R31_of _ | exact bi_R _ | assumption | (constructor <;> omega)) (by decide) ?_
      refine ev_ald1 45 dX12_holds_44 rfl ?_
      refine ev_ild3 46 dX12_holds_45 rfl ?_
      refine ev_ald0 47 dX12_holds_46 rfl ?_
      refine ev_getfield 50 14 1 fl_X12_13_14 (tr40 hT) rfl dX12_holds_47 rfl ?_
      refine ev_ild2 51 dX12_holds_50 rfl ?_
      refine tv_iald 52 (tr42 hT) (f) (by omega) (by omega) (by omega) dX12_holds_51 rfl ?_
      rw [hc]
      refine tp_SNH (2 * pw3 n) (12 * pw3 n) 55 dX12_holds_52 lnh_X12_37 (c_L_best hT hW hO (by omega) (by omega)) (by first | decide | omega) rfl rfl (Nat.le_of_ble_eq_true rfl) rfl (by omega) (by omega) ?_
      refine ev_ald0 56 dX12_holds_55 rfl ?_
      refine ev_getfield 59 14 2 fl_X12_16_14 (tr40 hT) rfl dX12_holds_56 rfl ?_
      refine ev_ild2 60 dX12_holds_59 rfl ?_
      refine tv_iald 61 (tr43 hT) (f) (by omega) (by omega) (by omega) dX12_holds_60 rfl ?_
      refine tj_icmp_lt 68 64 dX12_holds_61 (by decide) rfl (by first | exact TR.rng hT _ _ _ | exact R31_of _ | exact bi_R _ | assumption | (constructor <;> omega)) (by first | exact TR.rng hT _ _ _ | exact R31_of _ | exact bi_R _ | assumption | (constructor <;> omega)) (fun c61 => ?_) (fun c61 => ?_)
      · skip
        refine tj_iconst 69 dX12_holds_68 rfl ?_
        exact tz_ret (by first | rfl | omega | exact bi_dt (by omega) | exact bi_df (by omega) | (rw [hol_k0 hW.1 hf k9 (show X 16 f 1 = (c : Int) by omega)]; first | exact bi_dt (by omega) | exact bi_df (by omega))) rfl dX12_holds_69
      · skip
        refine tj_iconst 65 dX12_holds_64 rfl ?_
        refine ev_goto 69 dX12_holds_65 (by decide) ?_
        exact tz_ret (by first | rfl | omega | exact bi_dt (by omega) | exact bi_df (by omega) | (rw [hol_k0 hW.1 hf k9 (show X 16 f 1 = (c : Int) by omega)]; first | exact bi_dt (by omega) | exact bi_df (by omega))) rfl dX12_holds_69
    · skip
      obtain ⟨k9, k1⟩ := h1 c6
      have b := wo_f1 hW.1 f hf k9
      obtain ⟨c, hc⟩ : ∃ c : Nat, X 42 0 f = (c : Int) := ⟨(X 42 0 f).toNat, by omega⟩
      refine ev_tswIn 1 70 dX12_holds_6 (by omega) rfl (by decide) (by first | exact TR.rng hT _ _ _ | exact R31_of _ | exact bi_R _ | assumption | (constructor <;> omega)) (by decide) ?_
      refine ev_ald1 71 dX12_holds_70 rfl ?_
      refine ev_ild3 72 dX12_holds_71 rfl ?_
      refine ev_ald0 73 dX12_holds_72 rfl ?_
      refine ev_getfield 76 14 1 fl_X12_13_14 (tr40 hT) rfl dX12_holds_73 rfl ?_
      refine ev_ild2 77 dX12_holds_76 rfl ?_
      refine tv_iald 78 (tr42 hT) (f) (by omega) (by omega) (by omega) dX12_holds_77 rfl ?_
      rw [hc]
      refine tc_V2 81 13 dX12_holds_78 lkv_X12_43 (tr0 hT) rfl rfl (by first | decide | omega) (Nat.le_of_ble_eq_true rfl) (c_X11_isEnrolled_ok hT hW (by omega) (by omega)) ?_
      refine tb_if_ne 100 84 dX12_holds_81 (by decide) rfl (fun c81 => ?_) (fun c81 => ?_)
      · skip
        refine tj_iconst 101 dX12_holds_100 rfl ?_
        refine ev_goto 105 dX12_holds_101 (by decide) ?_
        exact tz_ret (by first | rfl | omega | exact bi_dt (by omega) | exact bi_df (by omega) | (rw [hol_k1 hW.1 hf k9 (show X 16 f 1 = (c : Int) by omega), c81]; first | rfl | (rw [Bool.false_or]; first | exact bi_dt (by omega) | exact bi_df (by omega)))) rfl dX12_holds_105
      · skip
        refine ev_ald1 85 dX12_holds_84 rfl ?_
        refine ev_ild3 86 dX12_holds_85 rfl ?_
        refine ev_ald0 87 dX12_holds_86 rfl ?_
        refine ev_getfield 90 14 1 fl_X12_13_14 (tr40 hT) rfl dX12_holds_87 rfl ?_
        refine ev_ild2 91 dX12_holds_90 rfl ?_
        refine tv_iald 92 (tr42 hT) (f) (by omega) (by omega) (by omega) dX12_holds_91 rfl ?_
        rw [hc]
        refine tp_SNH (2 * pw3 n) (12 * pw3 n) 95 dX12_holds_92 lnh_X12_37 (c_L_best hT hW hO (by omega) (by omega)) (by first | decide | omega) rfl rfl (Nat.le_of_ble_eq_true rfl) rfl (by omega) (by omega) ?_
        refine tj_bipush 97 dX12_holds_95 (by decide) rfl ?_
        refine tj_icmp_lt 104 100 dX12_holds_97 (by decide) rfl (by first | exact TR.rng hT _ _ _ | exact R31_of _ | exact bi_R _ | assumption | (constructor <;> omega)) (by first | exact TR.rng hT _ _ _ | exact R31_of _ | exact bi_R _ | assumption | (constructor <;> omega)) (fun c97 => ?_) (fun c97 => ?_)
        · skip
          refine tj_iconst 105 dX12_holds_104 rfl ?_
          exact tz_ret (by first | rfl | omega | exact bi_dt (by omega) | exact bi_df (by omega) | (rw [hol_k1 hW.1 hf k9 (show X 16 f 1 = (c : Int) by omega), c81]; first | rfl | (rw [Bool.false_or]; first | exact bi_dt (by omega) | exact bi_df (by omega)))) rfl dX12_holds_105
        · skip
          refine tj_iconst 101 dX12_holds_100 rfl ?_
          refine ev_goto 105 dX12_holds_101 (by decide) ?_
          exact tz_ret (by first | rfl | omega | exact bi_dt (by omega) | exact bi_df (by omega) | (rw [hol_k1 hW.1 hf k9 (show X 16 f 1 = (c : Int) by omega), c81]; first | rfl | (rw [Bool.false_or]; first | exact bi_dt (by omega) | exact bi_df (by omega)))) rfl dX12_holds_105
    · skip
      obtain ⟨k9, k1⟩ := h2 c6
      have b := wo_f2 hW.1 f hf k9
      refine ev_tswIn 2 106 dX12_holds_6 (by omega) rfl (by decide) (by first | exact TR.rng hT _ _ _ | exact R31_of _ | exact bi_R _ | assumption | (constructor <;> omega)) (by decide) ?_
      refine ev_ald1 107 dX12_holds_106 rfl ?_
      refine ev_ild3 108 dX12_holds_107 rfl ?_
      refine tc_V1 111 13 dX12_holds_108 lkv_X12_49 (tr0 hT) rfl rfl (by first | decide | omega) (Nat.le_of_ble_eq_true rfl) (c_X11_earnedCredits_ok hT hW (by omega)) ?_
      refine ev_ald0 112 dX12_holds_111 rfl ?_
      refine ev_getfield 115 14 1 fl_X12_13_14 (tr40 hT) rfl dX12_holds_112 rfl ?_
      refine ev_ild2 116 dX12_holds_115 rfl ?_
      refine tv_iald 117 (tr42 hT) (f) (by omega) (by omega) (by omega) dX12_holds_116 rfl ?_
      refine tj_icmp_lt 124 120 dX12_holds_117 (by decide) rfl (by first | exact TR.rng hT _ _ _ | exact R31_of _ | exact bi_R _ | assumption | (constructor <;> omega)) (by first | exact TR.rng hT _ _ _ | exact R31_of _ | exact bi_R _ | assumption | (constructor <;> omega)) (fun c117 => ?_) (fun c117 => ?_)
      · skip
        refine tj_iconst 125 dX12_holds_124 rfl ?_
        exact tz_ret (by first | rfl | omega | exact bi_dt (by omega) | exact bi_df (by omega) | (rw [hol_k2 hW.1 hf k9]; first | exact bi_dt (by omega) | exact bi_df (by omega))) rfl dX12_holds_125
      · skip
        refine tj_iconst 121 dX12_holds_120 rfl ?_
        refine ev_goto 125 dX12_holds_121 (by decide) ?_
        exact tz_ret (by first | rfl | omega | exact bi_dt (by omega) | exact bi_df (by omega) | (rw [hol_k2 hW.1 hf k9]; first | exact bi_dt (by omega) | exact bi_df (by omega))) rfl dX12_holds_125
    · skip
      obtain ⟨k9, k1, k4, k2, k3⟩ := h3 c6
      have b := wo_f3 hW.1 f hf k9
      obtain ⟨p, hp⟩ : ∃ p : Nat, X 42 0 f = (p : Int) := ⟨(X 42 0 f).toNat, by omega⟩
      obtain ⟨q, hq⟩ : ∃ q : Nat, X 43 0 f = (q : Int) := ⟨(X 43 0 f).toNat, by omega⟩
      rw [show (X 16 f 2).toNat = p by omega, show (X 16 f 3).toNat = q by omega] at b
      refine ev_tswIn 3 126 dX12_holds_6 (by omega) rfl (by decide) (by first | exact TR.rng hT _ _ _ | exact R31_of _ | exact bi_R _ | assumption | (constructor <;> omega)) (by decide) ?_
      refine ev_ald0 127 dX12_holds_126 rfl ?_
      refine ev_ald1 128 dX12_holds_127 rfl ?_
      refine ev_ald0 129 dX12_holds_128 rfl ?_
      refine ev_getfield 132 14 1 fl_X12_13_14 (tr40 hT) rfl dX12_holds_129 rfl ?_
      refine ev_ild2 133 dX12_holds_132 rfl ?_
      refine tv_iald 134 (tr42 hT) (f) (by omega) (by omega) (by omega) dX12_holds_133 rfl ?_
      rw [hp]
      refine ev_ild3 135 dX12_holds_134 rfl ?_
      refine tp_V (2 * pw3 n) (12 * pw3 n) 138 14 dX12_holds_135 lkv_X12_53 (tr40 hT) rfl (ih _ (by omega) (by omega)) (by first | decide | omega) rfl rfl (Nat.le_of_ble_eq_true rfl) rfl (by omega) (by omega) ?_
      refine tb_if_eq 160 141 dX12_holds_138 (by decide) rfl (fun c138 => ?_) (fun c138 => ?_)
      · skip
        refine tj_iconst 161 dX12_holds_160 rfl ?_
        exact tz_ret (by first | rfl | omega | exact bi_dt (by omega) | exact bi_df (by omega) | (rw [hol_all hW.1 hf k9 k1 k4 (show X 16 f 2 = (p : Int) by omega) (show X 16 f 3 = (q : Int) by omega), c138]; first | rfl | (rw [c153]; rfl))) rfl dX12_holds_161
      · skip
        refine ev_ald0 142 dX12_holds_141 rfl ?_
        refine ev_ald1 143 dX12_holds_142 rfl ?_
        refine ev_ald0 144 dX12_holds_143 rfl ?_
        refine ev_getfield 147 14 2 fl_X12_16_14 (tr40 hT) rfl dX12_holds_144 rfl ?_
        refine ev_ild2 148 dX12_holds_147 rfl ?_
        refine tv_iald 149 (tr43 hT) (f) (by omega) (by omega) (by omega) dX12_holds_148 rfl ?_
        rw [hq]
        refine ev_ild3 150 dX12_holds_149 rfl ?_
        refine tp_V (1 * pw3 n) (6 * pw3 n) 153 14 dX12_holds_150 lkv_X12_53 (tr40 hT) rfl (ih _ (by omega) (by omega)) (by first | decide | omega) rfl rfl (Nat.le_of_ble_eq_true rfl) rfl (by omega) (by omega) ?_
        refine tb_if_eq 160 156 dX12_holds_153 (by decide) rfl (fun c153 => ?_) (fun c153 => ?_)
        · skip
          refine tj_iconst 161 dX12_holds_160 rfl ?_
          exact tz_ret (by first | rfl | omega | exact bi_dt (by omega) | exact bi_df (by omega) | (rw [hol_all hW.1 hf k9 k1 k4 (show X 16 f 2 = (p : Int) by omega) (show X 16 f 3 = (q : Int) by omega), c138]; first | rfl | (rw [c153]; rfl))) rfl dX12_holds_161
        · skip
          refine tj_iconst 157 dX12_holds_156 rfl ?_
          refine ev_goto 161 dX12_holds_157 (by decide) ?_
          exact tz_ret (by first | rfl | omega | exact bi_dt (by omega) | exact bi_df (by omega) | (rw [hol_all hW.1 hf k9 k1 k4 (show X 16 f 2 = (p : Int) by omega) (show X 16 f 3 = (q : Int) by omega), c138]; first | rfl | (rw [c153]; rfl))) rfl dX12_holds_161
    · skip
      obtain ⟨k9, k1, k4, k2, k3⟩ := h4 c6
      have b := wo_f3 hW.1 f hf k9
      obtain ⟨p, hp⟩ : ∃ p : Nat, X 42 0 f = (p : Int) := ⟨(X 42 0 f).toNat, by omega⟩
      obtain ⟨q, hq⟩ : ∃ q : Nat, X 43 0 f = (q : Int) := ⟨(X 43 0 f).toNat, by omega⟩
      rw [show (X 16 f 2).toNat = p by omega, show (X 16 f 3).toNat = q by omega] at b
      refine ev_tswIn 4 162 dX12_holds_6 (by omega) rfl (by decide) (by first | exact TR.rng hT _ _ _ | exact R31_of _ | exact bi_R _ | assumption | (constructor <;> omega)) (by decide) ?_
      refine ev_ald0 163 dX12_holds_162 rfl ?_
      refine ev_ald1 164 dX12_holds_163 rfl ?_
      refine ev_ald0 165 dX12_holds_164 rfl ?_
      refine ev_getfield 168 14 1 fl_X12_13_14 (tr40 hT) rfl dX12_holds_165 rfl ?_
      refine ev_ild2 169 dX12_holds_168 rfl ?_
      refine tv_iald 170 (tr42 hT) (f) (by omega) (by omega) (by omega) dX12_holds_169 rfl ?_
      rw [hp]
      refine ev_ild3 171 dX12_holds_170 rfl ?_
      refine tp_V (2 * pw3 n) (12 * pw3 n) 174 14 dX12_holds_171 lkv_X12_53 (tr40 hT) rfl (ih _ (by omega) (by omega)) (by first | decide | omega) rfl rfl (Nat.le_of_ble_eq_true rfl) rfl (by omega) (by omega) ?_
      refine tb_if_ne 192 177 dX12_holds_174 (by decide) rfl (fun c174 => ?_) (fun c174 => ?_)
      · skip
        refine tj_iconst 193 dX12_holds_192 rfl ?_
        refine ev_goto 197 dX12_holds_193 (by decide) ?_
        exact tz_ret (by first | rfl | omega | exact bi_dt (by omega) | exact bi_df (by omega) | (rw [hol_any hW.1 hf k9 k1 k4 (show X 16 f 2 = (p : Int) by omega) (show X 16 f 3 = (q : Int) by omega), c174]; first | rfl | (rw [c189]; rfl))) rfl dX12_holds_197
      · skip
        refine ev_ald0 178 dX12_holds_177 rfl ?_
        refine ev_ald1 179 dX12_holds_178 rfl ?_
        refine ev_ald0 180 dX12_holds_179 rfl ?_
        refine ev_getfield 183 14 2 fl_X12_16_14 (tr40 hT) rfl dX12_holds_180 rfl ?_
        refine ev_ild2 184 dX12_holds_183 rfl ?_
        refine tv_iald 185 (tr43 hT) (f) (by omega) (by omega) (by omega) dX12_holds_184 rfl ?_
        rw [hq]
        refine ev_ild3 186 dX12_holds_185 rfl ?_
        refine tp_V (1 * pw3 n) (6 * pw3 n) 189 14 dX12_holds_186 lkv_X12_53 (tr40 hT) rfl (ih _ (by omega) (by omega)) (by first | decide | omega) rfl rfl (Nat.le_of_ble_eq_true rfl) rfl (by omega) (by omega) ?_
        refine tb_if_eq 196 192 dX12_holds_189 (by decide) rfl (fun c189 => ?_) (fun c189 => ?_)
        · skip
          refine tj_iconst 197 dX12_holds_196 rfl ?_
          exact tz_ret (by first | rfl | omega | exact bi_dt (by omega) | exact bi_df (by omega) | (rw [hol_any hW.1 hf k9 k1 k4 (show X 16 f 2 = (p : Int) by omega) (show X 16 f 3 = (q : Int) by omega), c174]; first | rfl | (rw [c189]; rfl))) rfl dX12_holds_197
        · skip
          refine tj_iconst 193 dX12_holds_192 rfl ?_
          refine ev_goto 197 dX12_holds_193 (by decide) ?_
          exact tz_ret (by first | rfl | omega | exact bi_dt (by omega) | exact bi_df (by omega) | (rw [hol_any hW.1 hf k9 k1 k4 (show X 16 f 2 = (p : Int) by omega) (show X 16 f 3 = (q : Int) by omega), c174]; first | rfl | (rw [c189]; rfl))) rfl dX12_holds_197
    · skip
      obtain ⟨k9, k1, k4, k2, k3, k5⟩ := h5 c6
      have b := wo_f3 hW.1 f hf k9
      obtain ⟨p, hp⟩ : ∃ p : Nat, X 42 0 f = (p : Int) := ⟨(X 42 0 f).toNat, by omega⟩
      obtain ⟨q, hq⟩ : ∃ q : Nat, X 43 0 f = (q : Int) := ⟨(X 43 0 f).toNat, by omega⟩
      rw [show (X 16 f 2).toNat = p by omega, show (X 16 f 3).toNat = q by omega] at b
      obtain ⟨r, hr⟩ : ∃ r : Nat, X 44 0 f = (r : Int) := ⟨(X 44 0 f).toNat, by omega⟩
      rw [show (X 16 f 4).toNat = r by omega] at b
      refine ev_tswIn 5 198 dX12_holds_6 (by omega) rfl (by decide) (by first | exact TR.rng hT _ _ _ | exact R31_of _ | exact bi_R _ | assumption | (constructor <;> omega)) (by decide) ?_
      refine ev_ald0 199 dX12_holds_198 rfl ?_
      refine ev_ald1 200 dX12_holds_199 rfl ?_
      refine ev_ald0 201 dX12_holds_200 rfl ?_
      refine ev_getfield 204 14 1 fl_X12_13_14 (tr40 hT) rfl dX12_holds_201 rfl ?_
      refine ev_ild2 205 dX12_holds_204 rfl ?_
      refine tv_iald 206 (tr42 hT) (f) (by omega) (by omega) (by omega) dX12_holds_205 rfl ?_
      rw [hp]
      refine ev_ild3 207 dX12_holds_206 rfl ?_
      refine tp_V (2 * pw3 n) (12 * pw3 n) 210 14 dX12_holds_207 lkv_X12_53 (tr40 hT) rfl (ih _ (by omega) (by omega)) (by first | decide | omega) rfl rfl (Nat.le_of_ble_eq_true rfl) rfl (by omega) (by omega) ?_
      refine tb_if_eq 217 213 dX12_holds_210 (by decide) rfl (fun c210 => ?_) (fun c210 => ?_)
      · skip
        refine tj_iconst 218 dX12_holds_217 rfl ?_
        refine ev_ist4 220 dX12_holds_218 rfl (by decide) rfl ?_
        refine ev_ild4 222 dX12_holds_220 rfl ?_
        refine ev_ald0 223 dX12_holds_222 rfl ?_
        refine ev_ald1 224 dX12_holds_223 rfl ?_
        refine ev_ald0 225 dX12_holds_224 rfl ?_
        refine ev_getfield 228 14 2 fl_X12_16_14 (tr40 hT) rfl dX12_holds_225 rfl ?_
        refine ev_ild2 229 dX12_holds_228 rfl ?_
        refine tv_iald 230 (tr43 hT) (f) (by omega) (by omega) (by omega) dX12_holds_229 rfl ?_
        rw [hq]
        refine ev_ild3 231 dX12_holds_230 rfl ?_
        refine tp_V (1 * pw3 n) (6 * pw3 n) 234 14 dX12_holds_231 lkv_X12_53 (tr40 hT) rfl (ih _ (by omega) (by omega)) (by first | decide | omega) rfl rfl (Nat.le_of_ble_eq_true rfl) rfl (by omega) (by omega) ?_
        refine tb_if_eq 241 237 dX12_holds_234 (by decide) rfl (fun c234 => ?_) (fun c234 => ?_)
        · skip
          refine tj_iconst 242 dX12_holds_241 rfl ?_
          refine tj_iadd 243 dX12_holds_242 rfl ?_
          refine ev_ist4 245 dX12_holds_243 rfl (by decide) rfl ?_
          refine ev_ild4 247 dX12_holds_245 rfl ?_
          refine ev_ald0 248 dX12_holds_247 rfl ?_
          refine ev_ald1 249 dX12_holds_248 rfl ?_
          refine ev_ald0 250 dX12_holds_249 rfl ?_
          refine ev_getfield 253 14 3 fl_X12_19_14 (tr40 hT) rfl dX12_holds_250 rfl ?_
          refine ev_ild2 254 dX12_holds_253 rfl ?_
          refine tv_iald 255 (tr44 hT) (f) (by omega) (by omega) (by omega) dX12_holds_254 rfl ?_
          rw [hr]
          refine ev_ild3 256 dX12_holds_255 rfl ?_
          refine tp_V (0 * pw3 n) (0 * pw3 n) 259 14 dX12_holds_256 lkv_X12_53 (tr40 hT) rfl (ih _ (by omega) (by omega)) (by first | decide | omega) rfl rfl (Nat.le_of_ble_eq_true rfl) rfl (by omega) (by omega) ?_
          refine tb_if_eq 266 262 dX12_holds_259 (by decide) rfl (fun c259 => ?_) (fun c259 => ?_)
          · skip
            refine tj_iconst 267 dX12_holds_266 rfl ?_
            refine tj_iadd 268 dX12_holds_267 rfl ?_
            refine ev_ist4 270 dX12_holds_268 rfl (by decide) rfl ?_
            refine ev_ild4 272 dX12_holds_270 rfl ?_
            refine tj_iconst 273 dX12_holds_272 rfl ?_
            refine tj_icmp_le 280 276 dX12_holds_273 (by decide) rfl (by first | exact TR.rng hT _ _ _ | exact R31_of _ | exact bi_R _ | assumption | (constructor <;> omega)) (by first | exact TR.rng hT _ _ _ | exact R31_of _ | exact bi_R _ | assumption | (constructor <;> omega)) (fun c273 => ?_) (fun c273 => ?_)
            · skip
              refine tj_iconst 281 dX12_holds_280 rfl ?_
              exact tz_ret (by first | rfl | omega | exact bi_dt (by omega) | exact bi_df (by omega) | (rw [hol_two hW.1 hf k9 k1 (show X 16 f 2 = (p : Int) by omega) (show X 16 f 3 = (q : Int) by omega) (show X 16 f 4 = (r : Int) by omega), c210, c234, c259]; decide)) rfl dX12_holds_281
            · skip
              refine tj_iconst 277 dX12_holds_276 rfl ?_
              refine ev_goto 281 dX12_holds_277 (by decide) ?_
              exact tz_ret (by first | rfl | omega | exact bi_dt (by omega) | exact bi_df (by omega) | (rw [hol_two hW.1 hf k9 k1 (show X 16 f 2 = (p : Int) by omega) (show X 16 f 3 = (q : Int) by omega) (show X 16 f 4 = (r : Int) by omega), c210, c234, c259]; decide)) rfl dX12_holds_281
          · skip
            refine tj_iconst 263 dX12_holds_262 rfl ?_
            refine ev_goto 267 dX12_holds_263 (by decide) ?_
            refine tj_iadd 268 dX12_holds_267 rfl ?_
            refine ev_ist4 270 dX12_holds_268 rfl (by decide) rfl ?_
            refine ev_ild4 272 dX12_holds_270 rfl ?_
            refine tj_iconst 273 dX12_holds_272 rfl ?_
            refine tj_icmp_le 280 276 dX12_holds_273 (by decide) rfl (by first | exact TR.rng hT _ _ _ | exact R31_of _ | exact bi_R _ | assumption | (constructor <;> omega)) (by first | exact TR.rng hT _ _ _ | exact R31_of _ | exact bi_R _ | assumption | (constructor <;> omega)) (fun c273 => ?_) (fun c273 => ?_)
            · skip
              refine tj_iconst 281 dX12_holds_280 rfl ?_
              exact tz_ret (by first | rfl | omega | exact bi_dt (by omega) | exact bi_df (by omega) | (rw [hol_two hW.1 hf k9 k1 (show X 16 f 2 = (p : Int) by omega) (show X 16 f 3 = (q : Int) by omega) (show X 16 f 4 = (r : Int) by omega), c210, c234, c259]; decide)) rfl dX12_holds_281
            · skip
              refine tj_iconst 277 dX12_holds_276 rfl ?_
              refine ev_goto 281 dX12_holds_277 (by decide) ?_
              exact tz_ret (by first | rfl | omega | exact bi_dt (by omega) | exact bi_df (by omega) | (rw [hol_two hW.1 hf k9 k1 (show X 16 f 2 = (p : Int) by omega) (show X 16 f 3 = (q : Int) by omega) (show X 16 f 4 = (r : Int) by omega), c210, c234, c259]; decide)) rfl dX12_holds_281
        · skip
          refine tj_iconst 238 dX12_holds_237 rfl ?_
          refine ev_goto 242 dX12_holds_238 (by decide) ?_
          refine tj_iadd 243 dX12_holds_242 rfl ?_
          refine ev_ist4 245 dX12_holds_243 rfl (by decide) rfl ?_
          refine ev_ild4 247 dX12_holds_245 rfl ?_
          refine ev_ald0 248 dX12_holds_247 rfl ?_
          refine ev_ald1 249 dX12_holds_248 rfl ?_
          refine ev_ald0 250 dX12_holds_249 rfl ?_
          refine ev_getfield 253 14 3 fl_X12_19_14 (tr40 hT) rfl dX12_holds_250 rfl ?_
          refine ev_ild2 254 dX12_holds_253 rfl ?_
          refine tv_iald 255 (tr44 hT) (f) (by omega) (by omega) (by omega) dX12_holds_254 rfl ?_
          rw [hr]
          refine ev_ild3 256 dX12_holds_255 rfl ?_
          refine tp_V (0 * pw3 n) (0 * pw3 n) 259 14 dX12_holds_256 lkv_X12_53 (tr40 hT) rfl (ih _ (by omega) (by omega)) (by first | decide | omega) rfl rfl (Nat.le_of_ble_eq_true rfl) rfl (by omega) (by omega) ?_
          refine tb_if_eq 266 262 dX12_holds_259 (by decide) rfl (fun c259 => ?_) (fun c259 => ?_)
          · skip
            refine tj_iconst 267 dX12_holds_266 rfl ?_
            refine tj_iadd 268 dX12_holds_267 rfl ?_
            refine ev_ist4 270 dX12_holds_268 rfl (by decide) rfl ?_
            refine ev_ild4 272 dX12_holds_270 rfl ?_
            refine tj_iconst 273 dX12_holds_272 rfl ?_
            refine tj_icmp_le 280 276 dX12_holds_273 (by decide) rfl (by first | exact TR.rng hT _ _ _ | exact R31_of _ | exact bi_R _ | assumption | (constructor <;> omega)) (by first | exact TR.rng hT _ _ _ | exact R31_of _ | exact bi_R _ | assumption | (constructor <;> omega)) (fun c273 => ?_) (fun c273 => ?_)
            · skip
              refine tj_iconst 281 dX12_holds_280 rfl ?_
              exact tz_ret (by first | rfl | omega | exact bi_dt (by omega) | exact bi_df (by omega) | (rw [hol_two hW.1 hf k9 k1 (show X 16 f 2 = (p : Int) by omega) (show X 16 f 3 = (q : Int) by omega) (show X 16 f 4 = (r : Int) by omega), c210, c234, c259]; decide)) rfl dX12_holds_281
            · skip
              refine tj_iconst 277 dX12_holds_276 rfl ?_
              refine ev_goto 281 dX12_holds_277 (by decide) ?_
              exact tz_ret (by first | rfl | omega | exact bi_dt (by omega) | exact bi_df (by omega) | (rw [hol_two hW.1 hf k9 k1 (show X 16 f 2 = (p : Int) by omega) (show X 16 f 3 = (q : Int) by omega) (show X 16 f 4 = (r : Int) by omega), c210, c234, c259]; decide)) rfl dX12_holds_281
          · skip
            refine tj_iconst 263 dX12_holds_262 rfl ?_
            refine ev_goto 267 dX12_holds_263 (by decide) ?_
            refine tj_iadd 268 dX12_holds_267 rfl ?_
            refine ev_ist4 270 dX12_holds_268 rfl (by decide) rfl ?_
            refine ev_ild4 272 dX12_holds_270 rfl ?_
            refine tj_iconst 273 dX12_holds_272 rfl ?_
            refine tj_icmp_le 280 276 dX12_holds_273 (by decide) rfl (by first | exact TR.rng hT _ _ _ | exact R31_of _ | exact bi_R _ | assumption | (constructor <;> omega)) (by first | exact TR.rng hT _ _ _ | exact R31_of _ | exact bi_R _ | assumption | (constructor <;> omega)) (fun c273 => ?_) (fun c273 => ?_)
            · skip
              refine tj_iconst 281 dX12_holds_280 rfl ?_
              exact tz_ret (by first | rfl | omega | exact bi_dt (by omega) | exact bi_df (by omega) | (rw [hol_two hW.1 hf k9 k1 (show X 16 f 2 = (p : Int) by omega) (show X 16 f 3 = (q : Int) by omega) (show X 16 f 4 = (r : Int) by omega), c210, c234, c259]; decide)) rfl dX12_holds_281
            · skip
              refine tj_iconst 277 dX12_holds_276 rfl ?_
              refine ev_goto 281 dX12_holds_277 (by decide) ?_
              exact tz_ret (by first | rfl | omega | exact bi_dt (by omega) | exact bi_df (by omega) | (rw [hol_two hW.1 hf k9 k1 (show X 16 f 2 = (p : Int) by omega) (show X 16 f 3 = (q : Int) by omega) (show X 16 f 4 = (r : Int) by omega), c210, c234, c259]; decide)) rfl dX12_holds_281
      · skip
        refine tj_iconst 214 dX12_holds_213 rfl ?_
        refine ev_goto 218 dX12_holds_214 (by decide) ?_
        refine ev_ist4 220 dX12_holds_218 rfl (by decide) rfl ?_
        refine ev_ild4 222 dX12_holds_220 rfl ?_
        refine ev_ald0 223 dX12_holds_222 rfl ?_
        refine ev_ald1 224 dX12_holds_223 rfl ?_
        refine ev_ald0 225 dX12_holds_224 rfl ?_
        refine ev_getfield 228 14 2 fl_X12_16_14 (tr40 hT) rfl dX12_holds_225 rfl ?_
        refine ev_ild2 229 dX12_holds_228 rfl ?_
        refine tv_iald 230 (tr43 hT) (f) (by omega) (by omega) (by omega) dX12_holds_229 rfl ?_
        rw [hq]
        refine ev_ild3 231 dX12_holds_230 rfl ?_
        refine tp_V (1 * pw3 n) (6 * pw3 n) 234 14 dX12_holds_231 lkv_X12_53 (tr40 hT) rfl (ih _ (by omega) (by omega)) (by first | decide | omega) rfl rfl (Nat.le_of_ble_eq_true rfl) rfl (by omega) (by omega) ?_
        refine tb_if_eq 241 237 dX12_holds_234 (by decide) rfl (fun c234 => ?_) (fun c234 => ?_)
        · skip
          refine tj_iconst 242 dX12_holds_241 rfl ?_
          refine tj_iadd 243 dX12_holds_242 rfl ?_
          refine ev_ist4 245 dX12_holds_243 rfl (by decide) rfl ?_
          refine ev_ild4 247 dX12_holds_245 rfl ?_
          refine ev_ald0 248 dX12_holds_247 rfl ?_
          refine ev_ald1 249 dX12_holds_248 rfl ?_
          refine ev_ald0 250 dX12_holds_249 rfl ?_
          refine ev_getfield 253 14 3 fl_X12_19_14 (tr40 hT) rfl dX12_holds_250 rfl ?_
          refine ev_ild2 254 dX12_holds_253 rfl ?_
          refine tv_iald 255 (tr44 hT) (f) (by omega) (by omega) (by omega) dX12_holds_254 rfl ?_
          rw [hr]
          refine ev_ild3 256 dX12_holds_255 rfl ?_
          refine tp_V (0 * pw3 n) (0 * pw3 n) 259 14 dX12_holds_256 lkv_X12_53 (tr40 hT) rfl (ih _ (by omega) (by omega)) (by first | decide | omega) rfl rfl (Nat.le_of_ble_eq_true rfl) rfl (by omega) (by omega) ?_
          refine tb_if_eq 266 262 dX12_holds_259 (by decide) rfl (fun c259 => ?_) (fun c259 => ?_)
          · skip
            refine tj_iconst 267 dX12_holds_266 rfl ?_
            refine tj_iadd 268 dX12_holds_267 rfl ?_
            refine ev_ist4 270 dX12_holds_268 rfl (by decide) rfl ?_
            refine ev_ild4 272 dX12_holds_270 rfl ?_
            refine tj_iconst 273 dX12_holds_272 rfl ?_
            refine tj_icmp_le 280 276 dX12_holds_273 (by decide) rfl (by first | exact TR.rng hT _ _ _ | exact R31_of _ | exact bi_R _ | assumption | (constructor <;> omega)) (by first | exact TR.rng hT _ _ _ | exact R31_of _ | exact bi_R _ | assumption | (constructor <;> omega)) (fun c273 => ?_) (fun c273 => ?_)
            · skip
              refine tj_iconst 281 dX12_holds_280 rfl ?_
              exact tz_ret (by first | rfl | omega | exact bi_dt (by omega) | exact bi_df (by omega) | (rw [hol_two hW.1 hf k9 k1 (show X 16 f 2 = (p : Int) by omega) (show X 16 f 3 = (q : Int) by omega) (show X 16 f 4 = (r : Int) by omega), c210, c234, c259]; decide)) rfl dX12_holds_281
            · skip
              refine tj_iconst 277 dX12_holds_276 rfl ?_
              refine ev_goto 281 dX12_holds_277 (by decide) ?_
              exact tz_ret (by first | rfl | omega | exact bi_dt (by omega) | exact bi_df (by omega) | (rw [hol_two hW.1 hf k9 k1 (show X 16 f 2 = (p : Int) by omega) (show X 16 f 3 = (q : Int) by omega) (show X 16 f 4 = (r : Int) by omega), c210, c234, c259]; decide)) rfl dX12_holds_281
          · skip
            refine tj_iconst 263 dX12_holds_262 rfl ?_
            refine ev_goto 267 dX12_holds_263 (by decide) ?_
            refine tj_iadd 268 dX12_holds_267 rfl ?_
            refine ev_ist4 270 dX12_holds_268 rfl (by decide) rfl ?_
            refine ev_ild4 272 dX12_holds_270 rfl ?_
            refine tj_iconst 273 dX12_holds_272 rfl ?_
            refine tj_icmp_le 280 276 dX12_holds_273 (by decide) rfl (by first | exact TR.rng hT _ _ _ | exact R31_of _ | exact bi_R _ | assumption | (constructor <;> omega)) (by first | exact TR.rng hT _ _ _ | exact R31_of _ | exact bi_R _ | assumption | (constructor <;> omega)) (fun c273 => ?_) (fun c273 => ?_)
            · skip
              refine tj_iconst 281 dX12_holds_280 rfl ?_
              exact tz_ret (by first | rfl | omega | exact bi_dt (by omega) | exact bi_df (by omega) | (rw [hol_two hW.1 hf k9 k1 (show X 16 f 2 = (p : Int) by omega) (show X 16 f 3 = (q : Int) by omega) (show X 16 f 4 = (r : Int) by omega), c210, c234, c259]; decide)) rfl dX12_holds_281
            · skip
              refine tj_iconst 277 dX12_holds_276 rfl ?_
              refine ev_goto 281 dX12_holds_277 (by decide) ?_
              exact tz_ret (by first | rfl | omega | exact bi_dt (by omega) | exact bi_df (by omega) | (rw [hol_two hW.1 hf k9 k1 (show X 16 f 2 = (p : Int) by omega) (show X 16 f 3 = (q : Int) by omega) (show X 16 f 4 = (r : Int) by omega), c210, c234, c259]; decide)) rfl dX12_holds_281
        · skip
          refine tj_iconst 238 dX12_holds_237 rfl ?_
          refine ev_goto 242 dX12_holds_238 (by decide) ?_
          refine tj_iadd 243 dX12_holds_242 rfl ?_
          refine ev_ist4 245 dX12_holds_243 rfl (by decide) rfl ?_
          refine ev_ild4 247 dX12_holds_245 rfl ?_
          refine ev_ald0 248 dX12_holds_247 rfl ?_
          refine ev_ald1 249 dX12_holds_248 rfl ?_
          refine ev_ald0 250 dX12_holds_249 rfl ?_
          refine ev_getfield 253 14 3 fl_X12_19_14 (tr40 hT) rfl dX12_holds_250 rfl ?_
          refine ev_ild2 254 dX12_holds_253 rfl ?_
          refine tv_iald 255 (tr44 hT) (f) (by omega) (by omega) (by omega) dX12_holds_254 rfl ?_
          rw [hr]
          refine ev_ild3 256 dX12_holds_255 rfl ?_
          refine tp_V (0 * pw3 n) (0 * pw3 n) 259 14 dX12_holds_256 lkv_X12_53 (tr40 hT) rfl (ih _ (by omega) (by omega)) (by first | decide | omega) rfl rfl (Nat.le_of_ble_eq_true rfl) rfl (by omega) (by omega) ?_
          refine tb_if_eq 266 262 dX12_holds_259 (by decide) rfl (fun c259 => ?_) (fun c259 => ?_)
          · skip
            refine tj_iconst 267 dX12_holds_266 rfl ?_
            refine tj_iadd 268 dX12_holds_267 rfl ?_
            refine ev_ist4 270 dX12_holds_268 rfl (by decide) rfl ?_
            refine ev_ild4 272 dX12_holds_270 rfl ?_
            refine tj_iconst 273 dX12_holds_272 rfl ?_
            refine tj_icmp_le 280 276 dX12_holds_273 (by decide) rfl (by first | exact TR.rng hT _ _ _ | exact R31_of _ | exact bi_R _ | assumption | (constructor <;> omega)) (by first | exact TR.rng hT _ _ _ | exact R31_of _ | exact bi_R _ | assumption | (constructor <;> omega)) (fun c273 => ?_) (fun c273 => ?_)
            · skip
              refine tj_iconst 281 dX12_holds_280 rfl ?_
              exact tz_ret (by first | rfl | omega | exact bi_dt (by omega) | exact bi_df (by omega) | (rw [hol_two hW.1 hf k9 k1 (show X 16 f 2 = (p : Int) by omega) (show X 16 f 3 = (q : Int) by omega) (show X 16 f 4 = (r : Int) by omega), c210, c234, c259]; decide)) rfl dX12_holds_281
            · skip
              refine tj_iconst 277 dX12_holds_276 rfl ?_
              refine ev_goto 281 dX12_holds_277 (by decide) ?_
              exact tz_ret (by first | rfl | omega | exact bi_dt (by omega) | exact bi_df (by omega) | (rw [hol_two hW.1 hf k9 k1 (show X 16 f 2 = (p : Int) by omega) (show X 16 f 3 = (q : Int) by omega) (show X 16 f 4 = (r : Int) by omega), c210, c234, c259]; decide)) rfl dX12_holds_281
          · skip
            refine tj_iconst 263 dX12_holds_262 rfl ?_
            refine ev_goto 267 dX12_holds_263 (by decide) ?_
            refine tj_iadd 268 dX12_holds_267 rfl ?_
            refine ev_ist4 270 dX12_holds_268 rfl (by decide) rfl ?_
            refine ev_ild4 272 dX12_holds_270 rfl ?_
            refine tj_iconst 273 dX12_holds_272 rfl ?_
            refine tj_icmp_le 280 276 dX12_holds_273 (by decide) rfl (by first | exact TR.rng hT _ _ _ | exact R31_of _ | exact bi_R _ | assumption | (constructor <;> omega)) (by first | exact TR.rng hT _ _ _ | exact R31_of _ | exact bi_R _ | assumption | (constructor <;> omega)) (fun c273 => ?_) (fun c273 => ?_)
            · skip
              refine tj_iconst 281 dX12_holds_280 rfl ?_
              exact tz_ret (by first | rfl | omega | exact bi_dt (by omega) | exact bi_df (by omega) | (rw [hol_two hW.1 hf k9 k1 (show X 16 f 2 = (p : Int) by omega) (show X 16 f 3 = (q : Int) by omega) (show X 16 f 4 = (r : Int) by omega), c210, c234, c259]; decide)) rfl dX12_holds_281
            · skip
              refine tj_iconst 277 dX12_holds_276 rfl ?_
              refine ev_goto 281 dX12_holds_277 (by decide) ?_
              exact tz_ret (by first | rfl | omega | exact bi_dt (by omega) | exact bi_df (by omega) | (rw [hol_two hW.1 hf k9 k1 (show X 16 f 2 = (p : Int) by omega) (show X 16 f 3 = (q : Int) by omega) (show X 16 f 4 = (r : Int) by omega), c210, c234, c259]; decide)) rfl dX12_holds_281
    · skip
      obtain ⟨k9, k1⟩ := h6 c6
      have b := wo_f4 hW.1 f hf k9
      obtain ⟨p, hp⟩ : ∃ p : Nat, X 42 0 f = (p : Int) := ⟨(X 42 0 f).toNat, by omega⟩
      rw [show (X 16 f 1).toNat = p by omega] at b
      refine ev_tswOut 282 dX12_holds_6 (by first | exact TR.rng hT _ _ _ | exact R31_of _ | exact bi_R _ | assumption | (constructor <;> omega)) (by omega) (by decide) ?_
      refine ev_ald0 283 dX12_holds_282 rfl ?_
      refine ev_ald1 284 dX12_holds_283 rfl ?_
      refine ev_ald0 285 dX12_holds_284 rfl ?_
      refine ev_getfield 288 14 1 fl_X12_13_14 (tr40 hT) rfl dX12_holds_285 rfl ?_
      refine ev_ild2 289 dX12_holds_288 rfl ?_
      refine tv_iald 290 (tr42 hT) (f) (by omega) (by omega) (by omega) dX12_holds_289 rfl ?_
      rw [hp]
      refine ev_ild3 291 dX12_holds_290 rfl ?_
      refine tp_V (2 * pw3 n) (12 * pw3 n) 294 14 dX12_holds_291 lkv_X12_53 (tr40 hT) rfl (ih _ (by omega) (by omega)) (by first | decide | omega) rfl rfl (Nat.le_of_ble_eq_true rfl) rfl (by omega) (by omega) ?_
      refine tb_if_ne 301 297 dX12_holds_294 (by decide) rfl (fun c294 => ?_) (fun c294 => ?_)
      · skip
        refine tj_iconst 302 dX12_holds_301 rfl ?_
        exact tz_ret (by first | rfl | omega | exact bi_dt (by omega) | exact bi_df (by omega) | (rw [hol_k4 hW.1 hf k9 (show X 16 f 1 = (p : Int) by omega), c294]; rfl)) rfl dX12_holds_302
      · skip
        refine tj_iconst 298 dX12_holds_297 rfl ?_
        refine ev_goto 302 dX12_holds_298 (by decide) ?_
        exact tz_ret (by first | rfl | omega | exact bi_dt (by omega) | exact bi_df (by omega) | (rw [hol_k4 hW.1 hf k9 (show X 16 f 1 = (p : Int) by omega), c294]; rfl)) rfl dX12_holds_302
theorem k_X12_holds {g : Gt} {α : AL} {ν : Nat → Nat → Bool} {X : XM} {h : AH} (hT : TR g α ν X h) (hW : WX ν X) (hO : OFF X) (hTL : TLD X) {s : Nat} (hs : s < 5) {f : Nat} (hf : f < 12) : Ct g M_X12_holds 37 [.ref (α 40 0), .ref (α 0 0), .int (J (f : Int)), .int (J (s : Int))] h 729 4374 (PQ (some (.int (J (bi (hol X s f))))) h) := by
  have eF := hO.2.2
  have q := wo_dep hW.1 f (by omega)
  exact c_X12_holds hT hW hO hTL hs 6 f (by omega) (by omega)
set_option maxRecDepth 100000 in
set_option maxHeartbeats 4000000 in
theorem c_X12_may {g : Gt} {α : AL} {ν : Nat → Nat → Bool} {X : XM} {h : AH} (hT : TR g α ν X h) (hW : WX ν X) (hO : OFF X) (hTL : TLD X) {s : Nat} (hs : s < 5) {c : Nat} (hc : c < 5)  : Ct g M_X12_may 38 [.ref (α 40 0), .ref (α 0 0), .int (J (s : Int)), .int (J (c : Int))] h 729 4374 (PQ (some (.int (J (bi (mayT X s c))))) h) := by
  refine ct_of_ev rfl rfl (ls := [some (.ref (α 40 0)), some (.ref (α 0 0)), some (.int (J (s : Int))), some (.int (J (c : Int)))]) rfl (Nat.le_of_ble_eq_true rfl) ?_
  show Ev g M_X12_may 38 0 [some (.ref (α 40 0)), some (.ref (α 0 0)), some (.int (J (s : Int))), some (.int (J (c : Int)))] [] h 729 4374 (PQ (some (.int (J (bi (mayT X s c))))) h)
  obtain ⟨eC, eS, eF⟩ := id hO
  have e45 := tl_45 hTL hc
  have hr := wo_req hW.1 c (by omega)
  refine ev_ald0 1 dX12_may_0 rfl ?_
  refine ev_getfield 4 14 4 fl_X12_22_14 (tr40 hT) rfl dX12_may_1 rfl ?_
  refine ev_ild3 5 dX12_may_4 rfl ?_
  refine tv_iald 6 (tr45 hT) (c) (by omega) (by omega) (by omega) dX12_may_5 rfl ?_
  refine tj_if_lt 24 9 dX12_may_6 (by decide) rfl (by first | exact TR.rng hT _ _ _ | exact R31_of _ | exact bi_R _ | assumption | (constructor <;> omega)) (fun c6 => ?_) (fun c6 => ?_)
  · skip
    refine tj_iconst 25 dX12_may_24 rfl ?_
    refine ev_goto 29 dX12_may_25 (by decide) ?_
    exact tz_ret (by first | rfl | omega | exact bi_dt (by omega) | exact bi_df (by omega) | (unfold mayT; rw [← e45]; first | (rw [decide_eq_true (by omega)]; rfl) | (rw [decide_eq_false (by omega), hf, Int.toNat_natCast, c21]; rfl))) rfl dX12_may_29
  · skip
    obtain ⟨f, hf⟩ : ∃ f : Nat, X 45 0 c = (f : Int) := ⟨(X 45 0 c).toNat, by omega⟩
    refine ev_ald0 10 dX12_may_9 rfl ?_
    refine ev_ald1 11 dX12_may_10 rfl ?_
    refine ev_ald0 12 dX12_may_11 rfl ?_
    refine ev_getfield 15 14 4 fl_X12_22_14 (tr40 hT) rfl dX12_may_12 rfl ?_
    refine ev_ild3 16 dX12_may_15 rfl ?_
    refine tv_iald 17 (tr45 hT) (c) (by omega) (by omega) (by omega) dX12_may_16 rfl ?_
    rw [hf]
    refine ev_ild2 18 dX12_may_17 rfl ?_
    refine tp_V (0) (0) 21 14 dX12_may_18 lkv_X12_53 (tr40 hT) rfl (k_X12_holds hT hW hO hTL (by omega) (by omega)) (by first | decide | omega) rfl rfl (Nat.le_of_ble_eq_true rfl) rfl (by omega) (by omega) ?_
    refine tb_if_eq 28 24 dX12_may_21 (by decide) rfl (fun c21 => ?_) (fun c21 => ?_)
    · skip
      refine tj_iconst 29 dX12_may_28 rfl ?_
      exact tz_ret (by first | rfl | omega | exact bi_dt (by omega) | exact bi_df (by omega) | (unfold mayT; rw [← e45]; first | (rw [decide_eq_true (by omega)]; rfl) | (rw [decide_eq_false (by omega), hf, Int.toNat_natCast, c21]; rfl))) rfl dX12_may_29
    · skip
      refine tj_iconst 25 dX12_may_24 rfl ?_
      refine ev_goto 29 dX12_may_25 (by decide) ?_
      exact tz_ret (by first | rfl | omega | exact bi_dt (by omega) | exact bi_df (by omega) | (unfold mayT; rw [← e45]; first | (rw [decide_eq_true (by omega)]; rfl) | (rw [decide_eq_false (by omega), hf, Int.toNat_natCast, c21]; rfl))) rfl dX12_may_29
set_option maxRecDepth 100000 in
set_option maxHeartbeats 4000000 in
theorem c_X12_would {g : Gt} {α : AL} {ν : Nat → Nat → Bool} {X : XM} {h : AH} (hT : TR g α ν X h) (hW : WX ν X) (hO : OFF X) (hTL : TLD X) {s : Nat} (hs : s < 5) {c : Nat} (hc : c < 5)  : Ct g M_X12_would 39 [.ref (α 40 0), .ref (α 0 0), .int (J (s : Int)), .int (J (c : Int))] h 800 5000 (PQ (some (.int (J (ltr X s c)))) h) := by
  refine ct_of_ev rfl rfl (ls := [some (.ref (α 40 0)), some (.ref (α 0 0)), some (.int (J (s : Int))), some (.int (J (c : Int)))]) rfl (Nat.le_of_ble_eq_true rfl) ?_
  show Ev g M_X12_would 39 0 [some (.ref (α 40 0)), some (.ref (α 0 0)), some (.int (J (s : Int))), some (.int (J (c : Int)))] [] h 800 5000 (PQ (some (.int (J (ltr X s c)))) h)
  obtain ⟨eC, eS, eF⟩ := id hO
  have e46 := tl_46 hTL hc
  have e49 := tl_49 hTL hs
  have hm := wo_maj hW.1 s (by omega)
  have hcr := wo_crd hW.1 c (by omega)
  have hpl := place_R hW.1 (show (c : Int) < nC X by omega) s
  have htr := wo_tri hW.1 s c (by omega) (by omega)
  have hwn := wo_wN hW.1 c (by omega)
  have hfr := free_0 hW.1 (show (c : Int) < nC X by omega) (X 4 s 0)
  have hld := crS_0 hW.1 (tak X s) (nC X).toNat (by omega)
  have hld2 : load X s = crS X (tak X s) (nC X).toNat := rfl
  refine ev_ald1 1 dX12_would_0 rfl ?_
  refine tc_V0 4 13 dX12_would_1 lkv_X12_60 (tr0 hT) rfl rfl (by first | decide | omega) (Nat.le_of_ble_eq_true rfl) (c_X11_day_ok hT hW) ?_
  refine tj_iconst 5 dX12_would_4 rfl ?_
  refine tj_icmp_le 11 8 dX12_would_5 (by decide) rfl (by first | exact TR.rng hT _ _ _ | exact R31_of _ | exact bi_R _ | assumption | (constructor <;> omega)) (by first | exact TR.rng hT _ _ _ | exact R31_of _ | exact bi_R _ | assumption | (constructor <;> omega)) (fun c5 => ?_) (fun c5 => ?_)
  · skip
    refine ev_ald1 12 dX12_would_11 rfl ?_
    refine ev_ild2 13 dX12_would_12 rfl ?_
    refine ev_ild3 14 dX12_would_13 rfl ?_
    refine tc_V2 17 13 dX12_would_14 lkv_X12_43 (tr0 hT) rfl rfl (by first | decide | omega) (Nat.le_of_ble_eq_true rfl) (c_X11_isEnrolled_ok hT hW (by omega) (by omega)) ?_
    refine tb_if_ne 29 20 dX12_would_17 (by decide) rfl (fun c17 => ?_) (fun c17 => ?_)
    · skip
      refine tj_bipush 31 dX12_would_29 (by decide) rfl ?_
      exact tz_retc (by first | rfl | omega | exact bi_dt (by omega) | exact bi_df (by omega) | (unfold ltr; rw [if_neg (by omega)]; (first | rw [if_pos (Or.inl c17)] | rw [if_pos (Or.inr (by omega))]))) (ltr_c X s c) rfl dX12_would_31
    · skip
      refine ev_ald1 21 dX12_would_20 rfl ?_
      refine ev_ild2 22 dX12_would_21 rfl ?_
      refine ev_ild3 23 dX12_would_22 rfl ?_
      refine tp_SNH (799) (4994) 26 dX12_would_23 lnh_X12_70 (c_L_place hT hW hO (by omega) (by omega)) (by first | decide | omega) rfl rfl (Nat.le_of_ble_eq_true rfl) rfl (by omega) (by omega) ?_
      refine tj_if_lt 32 29 dX12_would_26 (by decide) rfl (by first | exact TR.rng hT _ _ _ | exact R31_of _ | exact bi_R _ | assumption | (constructor <;> omega)) (fun c26 => ?_) (fun c26 => ?_)
      · skip
        refine ev_ald0 33 dX12_would_32 rfl ?_
        refine ev_ald1 34 dX12_would_33 rfl ?_
        refine ev_ild2 35 dX12_would_34 rfl ?_
        refine ev_ild3 36 dX12_would_35 rfl ?_
        refine tp_V (70) (620) 39 14 dX12_would_36 lkv_X12_73 (tr40 hT) rfl (c_X12_may hT hW hO hTL (by omega) (by omega)) (by first | decide | omega) rfl rfl (Nat.le_of_ble_eq_true rfl) rfl (by omega) (by omega) ?_
        refine tb_if_ne 45 42 dX12_would_39 (by decide) rfl (fun c39 => ?_) (fun c39 => ?_)
        · skip
          refine ev_ald1 46 dX12_would_45 rfl ?_
          refine ev_ild2 47 dX12_would_46 rfl ?_
          refine ev_ild3 48 dX12_would_47 rfl ?_
          refine tc_V2 51 13 dX12_would_48 lkv_X12_76 (tr0 hT) rfl rfl (by first | decide | omega) (Nat.le_of_ble_eq_true rfl) (c_X11_attempts_ok hT hW (by omega) (by omega)) ?_
          refine tj_iconst 52 dX12_would_51 rfl ?_
          refine tj_icmp_ne 58 55 dX12_would_52 (by decide) rfl (by first | exact TR.rng hT _ _ _ | exact R31_of _ | exact bi_R _ | assumption | (constructor <;> omega)) (by first | exact TR.rng hT _ _ _ | exact R31_of _ | exact bi_R _ | assumption | (constructor <;> omega)) (fun c52 => ?_) (fun c52 => ?_)
          · skip
            refine ev_ald0 59 dX12_would_58 rfl ?_
            refine ev_ald1 60 dX12_would_59 rfl ?_
            refine ev_ild2 61 dX12_would_60 rfl ?_
            refine tp_V (70) (620) 64 14 dX12_would_61 lkv_X12_79 (tr40 hT) rfl (c_X12_load hT hW hO hTL (by omega)) (by first | decide | omega) rfl rfl (Nat.le_of_ble_eq_true rfl) rfl (by omega) (by omega) ?_
            refine ev_ald0 65 dX12_would_64 rfl ?_
            refine ev_getfield 68 14 5 fl_X12_25_14 (tr40 hT) rfl dX12_would_65 rfl ?_
            refine ev_ild3 69 dX12_would_68 rfl ?_
            refine tv_iald 70 (tr46 hT) (c) (by omega) (by omega) (by omega) dX12_would_69 rfl ?_
            refine tj_iadd 71 dX12_would_70 rfl ?_
            refine tj_bipush 73 dX12_would_71 (by decide) rfl ?_
            refine tj_icmp_le 79 76 dX12_would_73 (by decide) rfl (by first | exact TR.rng hT _ _ _ | exact R31_of _ | exact bi_R _ | assumption | (constructor <;> omega)) (by first | exact TR.rng hT _ _ _ | exact R31_of _ | exact bi_R _ | assumption | (constructor <;> omega)) (fun c73 => ?_) (fun c73 => ?_)
            · skip
              refine ev_ald0 80 dX12_would_79 rfl ?_
              refine ev_ald1 81 dX12_would_80 rfl ?_
              refine ev_ild3 82 dX12_would_81 rfl ?_
              refine ev_ald0 83 dX12_would_82 rfl ?_
              refine ev_getfield 86 14 8 fl_X12_34_14 (tr40 hT) rfl dX12_would_83 rfl ?_
              refine ev_ild2 87 dX12_would_86 rfl ?_
              refine tv_iald 88 (tr49 hT) (s) (by omega) (by omega) (by omega) dX12_would_87 rfl ?_
              rw [e49]
              refine tp_V (70) (620) 91 14 dX12_would_88 lkv_X12_83 (tr40 hT) rfl (c_X12_free hT hW hO hTL (by omega) (by omega)) (by first | decide | omega) rfl rfl (Nat.le_of_ble_eq_true rfl) rfl (by omega) (by omega) ?_
              refine tj_if_le 99 94 dX12_would_91 (by decide) rfl (by first | exact TR.rng hT _ _ _ | exact R31_of _ | exact bi_R _ | assumption | (constructor <;> omega)) (fun c91 => ?_) (fun c91 => ?_)
              · skip
                refine ev_ald1 100 dX12_would_99 rfl ?_
                refine ev_ild3 101 dX12_would_100 rfl ?_
                refine tc_V1 104 13 dX12_would_101 lkv_X12_86 (tr0 hT) rfl rfl (by first | decide | omega) (Nat.le_of_ble_eq_true rfl) (c_X11_waiting_ok hT hW (by omega)) ?_
                refine tj_bipush 106 dX12_would_104 (by decide) rfl ?_
                refine tj_icmp_ne 114 109 dX12_would_106 (by decide) rfl (by first | exact TR.rng hT _ _ _ | exact R31_of _ | exact bi_R _ | assumption | (constructor <;> omega)) (by first | exact TR.rng hT _ _ _ | exact R31_of _ | exact bi_R _ | assumption | (constructor <;> omega)) (fun c106 => ?_) (fun c106 => ?_)
                · skip
                  refine tj_bipush 116 dX12_would_114 (by decide) rfl ?_
                  exact tz_retc (by first | rfl | omega | exact bi_dt (by omega) | exact bi_df (by omega) | (unfold ltr; rw [if_neg (by omega)]; rw [if_neg (fun z => by rcases z with z | z; exact absurd z (by rw [c17]; decide); exact z (by omega))]; rw [if_neg (by rw [c39]; decide)]; rw [if_neg (by omega)]; rw [if_neg (by unfold fitsL; rw [decide_eq_true (by omega)]; decide)]; first | (rw [if_pos (by omega)]; done) | (rw [if_neg (by omega), if_pos (by omega)]; done) | (rw [if_neg (by omega), if_neg (by omega)]; done))) (ltr_c X s c) rfl dX12_would_116
                · skip
                  refine tj_bipush 111 dX12_would_109 (by decide) rfl ?_
                  refine ev_goto 116 dX12_would_111 (by decide) ?_
                  exact tz_retc (by first | rfl | omega | exact bi_dt (by omega) | exact bi_df (by omega) | (unfold ltr; rw [if_neg (by omega)]; rw [if_neg (fun z => by rcases z with z | z; exact absurd z (by rw [c17]; decide); exact z (by omega))]; rw [if_neg (by rw [c39]; decide)]; rw [if_neg (by omega)]; rw [if_neg (by unfold fitsL; rw [decide_eq_true (by omega)]; decide)]; first | (rw [if_pos (by omega)]; done) | (rw [if_neg (by omega), if_pos (by omega)]; done) | (rw [if_neg (by omega), if_neg (by omega)]; done))) (ltr_c X s c) rfl dX12_would_116
              · skip
                refine tj_bipush 96 dX12_would_94 (by decide) rfl ?_
                refine ev_goto 116 dX12_would_96 (by decide) ?_
                exact tz_retc (by first | rfl | omega | exact bi_dt (by omega) | exact bi_df (by omega) | (unfold ltr; rw [if_neg (by omega)]; rw [if_neg (fun z => by rcases z with z | z; exact absurd z (by rw [c17]; decide); exact z (by omega))]; rw [if_neg (by rw [c39]; decide)]; rw [if_neg (by omega)]; rw [if_neg (by unfold fitsL; rw [decide_eq_true (by omega)]; decide)]; first | (rw [if_pos (by omega)]; done) | (rw [if_neg (by omega), if_pos (by omega)]; done) | (rw [if_neg (by omega), if_neg (by omega)]; done))) (ltr_c X s c) rfl dX12_would_116
            · skip
              refine tj_bipush 78 dX12_would_76 (by decide) rfl ?_
              exact tz_retc (by first | rfl | omega | exact bi_dt (by omega) | exact bi_df (by omega) | (unfold ltr; rw [if_neg (by omega)]; rw [if_neg (fun z => by rcases z with z | z; exact absurd z (by rw [c17]; decide); exact z (by omega))]; rw [if_neg (by rw [c39]; decide)]; rw [if_neg (by omega)]; rw [if_pos (by unfold fitsL; rw [decide_eq_false (by omega)])])) (ltr_c X s c) rfl dX12_would_78
          · skip
            refine tj_bipush 57 dX12_would_55 (by decide) rfl ?_
            exact tz_retc (by first | rfl | omega | exact bi_dt (by omega) | exact bi_df (by omega) | (unfold ltr; rw [if_neg (by omega)]; rw [if_neg (fun z => by rcases z with z | z; exact absurd z (by rw [c17]; decide); exact z (by omega))]; rw [if_neg (by rw [c39]; decide)]; rw [if_pos (by omega)])) (ltr_c X s c) rfl dX12_would_57
        · skip
          refine tj_bipush 44 dX12_would_42 (by decide) rfl ?_
          exact tz_retc (by first | rfl | omega | exact bi_dt (by omega) | exact bi_df (by omega) | (unfold ltr; rw [if_neg (by omega)]; rw [if_neg (fun z => by rcases z with z | z; exact absurd z (by rw [c17]; decide); exact z (by omega))]; rw [if_pos c39])) (ltr_c X s c) rfl dX12_would_44
      · skip
        refine tj_bipush 31 dX12_would_29 (by decide) rfl ?_
        exact tz_retc (by first | rfl | omega | exact bi_dt (by omega) | exact bi_df (by omega) | (unfold ltr; rw [if_neg (by omega)]; (first | rw [if_pos (Or.inl c17)] | rw [if_pos (Or.inr (by omega))]))) (ltr_c X s c) rfl dX12_would_31
  · skip
    refine tj_bipush 10 dX12_would_8 (by decide) rfl ?_
    exact tz_retc (by first | rfl | omega | exact bi_dt (by omega) | exact bi_df (by omega) | (unfold ltr; rw [if_pos (by omega)])) (ltr_c X s c) rfl dX12_would_10
