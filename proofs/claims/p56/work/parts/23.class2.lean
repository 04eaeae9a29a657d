/-! THE CLASS: formulas -/
/-! the row ts_bit and those named wb_ are the kit's, pasted -/
theorem ts_bit {w : Int64} {s : UInt64} {j : Nat} (hj : j < 64) (hs : s.toNat = j) : ((w.toUInt64 >>> s).toInt64 &&& 1) = 0 ↔ w.toBitVec.getLsbD j = false := by
  have e : (w.toUInt64 >>> s).toInt64.toBitVec = w.toBitVec >>> j := by
    apply BitVec.eq_of_toNat_eq
    show (w.toUInt64 >>> s).toNat = _
    rw [UInt64.toNat_shiftRight, hs, Nat.mod_eq_of_lt hj, BitVec.toNat_ushiftRight]
    rfl
  rw [← Int64.toBitVec_inj, Int64.toBitVec_and, e]
  show w.toBitVec >>> j &&& 1#64 = 0#64 ↔ _
  constructor
  · intro h
    have t := congrArg (fun x => x.getLsbD 0) h
    simpa using t
  · intro h
    apply BitVec.eq_of_getLsbD_eq
    intro i hi
    cases i with
    | zero => simp [h]
    | succ i => simp
theorem wb_tb (n : Nat) : (lN n).toBitVec = BitVec.ofNat 64 n := rfl
theorem wb_inj {a b : Int64} (h : a.toBitVec = b.toBitVec) : a = b := Int64.toBitVec_inj.mp h
theorem wb_c : ∀ k, k < 64 → ((nI k).toInt64 &&& 63) = lN k := by decide +kernel
theorem wb_cu : ∀ k, k < 64 → ((nI k).toInt64.toUInt64 &&& Int64.toUInt64 63) = UInt64.ofNat k := by decide +kernel
theorem wb_sm : ∀ k, k < 64 → (BitVec.ofNat 64 k).smod 64 = BitVec.ofNat 64 k := by decide +kernel
theorem wb_shl (n : Nat) {k : Nat} (hk : k < 64) : lN n <<< ((nI k).toInt64 &&& 63) = lN (n * 2 ^ k) := by
  rw [wb_c k hk]
  apply wb_inj
  rw [Int64.toBitVec_shiftLeft, wb_tb, wb_tb, wb_tb, wb_sm k hk]
  apply BitVec.eq_of_toNat_eq
  rw [BitVec.shiftLeft_eq', BitVec.toNat_shiftLeft, BitVec.toNat_ofNat, BitVec.toNat_ofNat, BitVec.toNat_ofNat, Nat.mod_eq_of_lt (show k < 2 ^ 64 by omega), Nat.shiftLeft_eq, Nat.mul_mod, Nat.mod_mod, ← Nat.mul_mod]
def lb (T : Int64) (f : Nat) : Bool := T.toBitVec.getLsbD f
theorem lb_0 (f : Nat) : lb (Int64.ofNat 0) f = false := BitVec.getLsbD_zero
theorem lb_met {T : Int64} {f : Nat} (hf : f < 64) : lg_cmp ((T.toUInt64 >>> ((J (f : Int)).toInt64.toUInt64 &&& Int64.toUInt64 63)).toInt64 &&& Int64.ofNat 1) (Int64.ofNat 0) = 0 ↔ lb T f = false := by
  rw [lg_cmp_eq, ← J_nI, wb_cu f hf]
  exact ts_bit hf (by show (BitVec.ofNat 64 f).toNat = f; rw [BitVec.toNat_ofNat, Nat.mod_eq_of_lt (by omega)])
theorem met_0 {T : Int64} {k : Nat} (hk : k < 64) (h : lg_cmp ((T.toUInt64 >>> ((J (k : Int)).toInt64.toUInt64 &&& Int64.toUInt64 63)).toInt64 &&& Int64.ofNat 1) (Int64.ofNat 0) = 0) : (0 : Int) = bi (decide ((k : Int) = -1) || lb T (k : Int).toNat) := by
  have q := (lb_met hk).mp h
  rw [show (k : Int).toNat = k from rfl, q, decide_eq_false (by omega)]
  rfl
theorem met_1 {T : Int64} {k : Nat} (hk : k < 64) (h : ¬ lg_cmp ((T.toUInt64 >>> ((J (k : Int)).toInt64.toUInt64 &&& Int64.toUInt64 63)).toInt64 &&& Int64.ofNat 1) (Int64.ofNat 0) = 0) : (1 : Int) = bi (decide ((k : Int) = -1) || lb T (k : Int).toNat) := by
  have q : lb T k = true := by
    cases hb : lb T k
    · exact absurd ((lb_met hk).mpr hb) h
    · rfl
  rw [show (k : Int).toNat = k from rfl, q, Bool.or_true]
  rfl
theorem thr0 {x : Int} {D : Bool} (h : x = -1) : bi (decide (x ≠ -1) && D) = 0 := by rw [decide_eq_false (fun z => z h)]; rfl
theorem thr1 {x : Int} {D : Bool} (h : ¬ x = -1) : bi (decide (x ≠ -1) && D) = bi D := by rw [decide_eq_true h, Bool.true_and]
theorem lb_set {T : Int64} {k f : Nat} (hk : k < 64) (hf : f < 64) : lb (T ||| (Int64.ofNat 1 <<< ((J (k : Int)).toInt64 &&& 63))) f = (lb T f || decide (f = k)) := by
  rw [← J_nI, show (Int64.ofNat 1) = lN 1 from rfl, wb_shl 1 hk]
  unfold lb
  rw [Int64.toBitVec_or, BitVec.getLsbD_or, wb_tb, BitVec.getLsbD_ofNat, Nat.one_mul, Nat.testBit_two_pow]
  simp [hf, eq_comm]
set_option maxRecDepth 100000 in
set_option maxHeartbeats 4000000 in
theorem c_X11_isMet {g : Gt} {h : AH} {y : Int} {T : Int64} (hy : -1 ≤ y ∧ y < 64) : Pr g M_X11_isMet 0 [.int (J y), .long T] h (some (.int (J (bi (decide (y = -1) || lb T y.toNat))))) := by
  refine pr_of rfl rfl (ls := [some (.int (J y)), some (.long T), none]) rfl (Nat.le_of_ble_eq_true rfl) ?_
  show Ev g M_X11_isMet 0 0 [some (.int (J y)), some (.long T), none] [] h 0 0 (PQ (some (.int (J (bi (decide (y = -1) || lb T y.toNat))))) h)
  refine ev_ild0 1 dX11_isMet_0 rfl ?_
  refine tj_iconst 2 dX11_isMet_1 rfl ?_
  refine tj_icmp_eq 15 5 dX11_isMet_2 (by decide) rfl (by first | exact TR.rng hT _ _ _ | exact R31_of _ | exact bi_R _ | (constructor <;> omega)) (by first | exact TR.rng hT _ _ _ | exact R31_of _ | exact bi_R _ | (constructor <;> omega)) (fun c2 => ?_) (fun c2 => ?_)
  · skip
    refine tj_iconst 16 dX11_isMet_15 rfl ?_
    refine ev_goto 20 dX11_isMet_16 (by decide) ?_
    exact tz_ret (by first | rfl | omega | exact bi_dt (by omega) | exact bi_df (by omega) | (first | exact met_0 hk c12 | exact met_1 hk c12 | (simp [bi, *]; done))) rfl dX11_isMet_20
  · skip
    obtain ⟨k, rfl⟩ : ∃ k : Nat, y = (k : Int) := ⟨y.toNat, by omega⟩
    have hk : k < 64 := by omega
    refine ev_lld1 6 dX11_isMet_5 rfl ?_
    refine ev_ild0 7 dX11_isMet_6 rfl ?_
    refine ev_lushr 8 dX11_isMet_7 rfl ?_
    refine ev_lconst (Int64.ofNat 1) 9 dX11_isMet_8 rfl rfl ?_
    refine ev_land 10 dX11_isMet_9 rfl ?_
    refine ev_lconst (Int64.ofNat 0) 11 dX11_isMet_10 rfl rfl ?_
    refine ev_lcmp 12 dX11_isMet_11 rfl ?_
    refine ev_if_eq 19 15 dX11_isMet_12 (by decide) rfl (fun c12 => ?_) (fun c12 => ?_)
    · skip
      refine tj_iconst 20 dX11_isMet_19 rfl ?_
      exact tz_ret (by first | rfl | omega | exact bi_dt (by omega) | exact bi_df (by omega) | (first | exact met_0 hk c12 | exact met_1 hk c12 | (simp [bi, *]; done))) rfl dX11_isMet_20
    · skip
      refine tj_iconst 16 dX11_isMet_15 rfl ?_
      refine ev_goto 20 dX11_isMet_16 (by decide) ?_
      exact tz_ret (by first | rfl | omega | exact bi_dt (by omega) | exact bi_df (by omega) | (first | exact met_0 hk c12 | exact met_1 hk c12 | (simp [bi, *]; done))) rfl dX11_isMet_20
theorem isMet_n {g : Gt} {h : AH} {y : Int} {T : Int64} (hy : 0 ≤ y ∧ y < 64) : Pr g M_X11_isMet 0 [.int (J y), .long T] h (some (.int (J (bi (lb T y.toNat))))) := by
  have c := c_X11_isMet (g := g) (h := h) (y := y) (T := T) (by omega)
  rw [decide_eq_false (show ¬ y = -1 by omega), Bool.false_or] at c
  exact c
theorem hp_i {g : Gt} {α : AL} {ν : Nat → Nat → Bool} {X : XM} {h : AH} (hT : TR g α ν X h) {s : Nat} (hs : ν 4 s = true) (hl : s < 17) {y : Int} (h0 : 0 ≤ y ∧ y < 20) : Pr g M_X8_hasPassed 0 [.ref (α 4 s), .int (J y)] h (some (.int (J (bi (psd X s y.toNat))))) := by
  have e : y = (y.toNat : Int) := by omega
  rw [show J y = J (y.toNat : Int) from congrArg J e]
  exact c_X8_hasPassed hT hs hl (by omega)
theorem tg_1 {X : XM} {s c : Nat} {q : Bool} (h : ¬ X 5 s c = 0) : (1 : Int) = bi (tak X s c || q) := by
  rw [show tak X s c = true from decide_eq_true h]; rfl
theorem tg_2 {X : XM} {s c : Nat} (h : X 5 s c = 0) (h2 : psd X s c = true) : (1 : Int) = bi (tak X s c || decide (50 ≤ X 8 s c)) := by
  rw [show decide (50 ≤ X 8 s c) = psd X s c from rfl, h2, Bool.or_true]; rfl
theorem tg_3 {X : XM} {s c : Nat} (h : X 5 s c = 0) (h2 : psd X s c = false) : (0 : Int) = bi (tak X s c || decide (50 ≤ X 8 s c)) := by
  rw [show decide (50 ≤ X 8 s c) = psd X s c from rfl, h2, show tak X s c = false from decide_eq_false (fun z => z h)]; rfl
theorem fc_0 {g : Gt} {α : AL} {ν : Nat → Nat → Bool} {X : XM} {h : AH} (hT : TR g α ν X h) {f : Nat} (hf : ν 16 f = true) (hk : X 16 f 9 = 0) : h (α 16 f) = some (.inr (7, [.int (J (X 16 f 0)), .int (J (X 16 f 1)), .int (J (X 16 f 2))])) := by
  rw [tr16 hT hf, ck16, fcell, if_pos hk]
theorem fc_1 {g : Gt} {α : AL} {ν : Nat → Nat → Bool} {X : XM} {h : AH} (hT : TR g α ν X h) {f : Nat} (hf : ν 16 f = true) (hk : X 16 f 9 = 1) : h (α 16 f) = some (.inr (11, [.int (J (X 16 f 0)), .int (J (X 16 f 1))])) := by
  rw [tr16 hT hf, ck16, fcell, if_neg (by omega), if_pos hk]
theorem fc_2 {g : Gt} {α : AL} {ν : Nat → Nat → Bool} {X : XM} {h : AH} (hT : TR g α ν X h) {f : Nat} (hf : ν 16 f = true) (hk : X 16 f 9 = 2) : h (α 16 f) = some (.inr (6, [.int (J (X 16 f 0)), .int (J (X 16 f 1))])) := by
  rw [tr16 hT hf, ck16, fcell, if_neg (by omega), if_neg (by omega), if_pos hk]
theorem fc_3 {g : Gt} {α : AL} {ν : Nat → Nat → Bool} {X : XM} {h : AH} (hT : TR g α ν X h) {f : Nat} (hf : ν 16 f = true) (hk : X 16 f 9 = 3) : h (α 16 f) = some (.inr (4, [.int (J (X 16 f 0)), .int (J (X 16 f 1)), .int (J (X 16 f 2)), .int (J (X 16 f 3)), .int (J (X 16 f 4))])) := by
  rw [tr16 hT hf, ck16, fcell, if_neg (by omega), if_neg (by omega), if_neg (by omega), if_pos hk]
theorem fc_4 {g : Gt} {α : AL} {ν : Nat → Nat → Bool} {X : XM} {h : AH} (hT : TR g α ν X h) {f : Nat} (hf : ν 16 f = true) (hk : X 16 f 9 = 4) : h (α 16 f) = some (.inr (8, [.int (J (X 16 f 0)), .int (J (X 16 f 1))])) := by
  rw [tr16 hT hf, ck16, fcell, if_neg (by omega), if_neg (by omega), if_neg (by omega), if_neg (by omega)]
set_option maxRecDepth 100000 in
set_option maxHeartbeats 4000000 in
theorem c_X5_isTrue {g : Gt} {α : AL} {ν : Nat → Nat → Bool} {X : XM} {h : AH} (hT : TR g α ν X h) {s : Nat} (hs : ν 4 s = true) (hl : s < 17) {f : Nat} (hf : ν 16 f = true) {e : Int} (he : R31 e) {T : Int64} (hk : X 16 f 9 = 0) (h1 : 0 ≤ X 16 f 1 ∧ X 16 f 1 < 20) : Pr g M_X5_isTrue 1 [.ref (α 16 f), .ref (α 4 s), .int (J e), .long T] h (some (.int (J (bi (evF X (X 8 s) (tak X s) e f (lb T)))))) := by
  refine pr_of rfl rfl (ls := [some (.ref (α 16 f)), some (.ref (α 4 s)), some (.int (J e)), some (.long T), none]) rfl (Nat.le_of_ble_eq_true rfl) ?_
  show Ev g M_X5_isTrue 1 0 [some (.ref (α 16 f)), some (.ref (α 4 s)), some (.int (J e)), some (.long T), none] [] h 0 0 (PQ (some (.int (J (bi (evF X (X 8 s) (tak X s) e f (lb T)))))) h)
  refine ev_ald1 1 dX5_isTrue_0 rfl ?_
  refine ev_getfield 4 10 4 fl_X5_16_10 (tr4 hT (by first | assumption | exact wx_stu hW (by omega) | exact wx_crs hW (by omega) | exact wx_new hW) (by omega)) rfl dX5_isTrue_1 rfl ?_
  refine ev_ald0 5 dX5_isTrue_4 rfl ?_
  refine ev_getfield 8 7 1 fl_X5_7_7 (fc_0 hT hf hk) rfl dX5_isTrue_5 rfl ?_
  refine tv_iald 9 (tr8 hT (by first | assumption | exact wx_stu hW (by omega) | exact wx_crs hW (by omega) | exact wx_new hW) (by omega)) ((X 16 f 1).toNat) (by omega) (by omega) (by omega) dX5_isTrue_8 rfl ?_
  refine ev_ald0 10 dX5_isTrue_9 rfl ?_
  refine ev_getfield 13 7 2 fl_X5_13_7 (fc_0 hT hf hk) rfl dX5_isTrue_10 rfl ?_
  refine tj_icmp_lt 20 16 dX5_isTrue_13 (by decide) rfl (by first | exact TR.rng hT _ _ _ | exact R31_of _ | exact bi_R _ | (constructor <;> omega)) (by first | exact TR.rng hT _ _ _ | exact R31_of _ | exact bi_R _ | (constructor <;> omega)) (fun c13 => ?_) (fun c13 => ?_)
  · skip
    refine tj_iconst 21 dX5_isTrue_20 rfl ?_
    exact tz_ret (by first | rfl | omega | exact bi_dt (by omega) | exact bi_df (by omega) | (rw [evF, if_pos hk]; first | exact bi_dt (by omega) | exact bi_df (by omega))) rfl dX5_isTrue_21
  · skip
    refine tj_iconst 17 dX5_isTrue_16 rfl ?_
    refine ev_goto 21 dX5_isTrue_17 (by decide) ?_
    exact tz_ret (by first | rfl | omega | exact bi_dt (by omega) | exact bi_df (by omega) | (rw [evF, if_pos hk]; first | exact bi_dt (by omega) | exact bi_df (by omega))) rfl dX5_isTrue_21
set_option maxRecDepth 100000 in
set_option maxHeartbeats 4000000 in
theorem c_X9_isTrue {g : Gt} {α : AL} {ν : Nat → Nat → Bool} {X : XM} {h : AH} (hT : TR g α ν X h) {s : Nat} (hs : ν 4 s = true) (hl : s < 17) {f : Nat} (hf : ν 16 f = true) {e : Int} (he : R31 e) {T : Int64} (hk : X 16 f 9 = 1) (h1 : 0 ≤ X 16 f 1 ∧ X 16 f 1 < 20) : Pr g M_X9_isTrue 1 [.ref (α 16 f), .ref (α 4 s), .int (J e), .long T] h (some (.int (J (bi (evF X (X 8 s) (tak X s) e f (lb T)))))) := by
  refine pr_of rfl rfl (ls := [some (.ref (α 16 f)), some (.ref (α 4 s)), some (.int (J e)), some (.long T), none]) rfl (Nat.le_of_ble_eq_true rfl) ?_
  show Ev g M_X9_isTrue 1 0 [some (.ref (α 16 f)), some (.ref (α 4 s)), some (.int (J e)), some (.long T), none] [] h 0 0 (PQ (some (.int (J (bi (evF X (X 8 s) (tak X s) e f (lb T)))))) h)
  refine ev_ald1 1 dX9_isTrue_0 rfl ?_
  refine ev_getfield 4 10 1 fl_X9_13_10 (tr4 hT (by first | assumption | exact wx_stu hW (by omega) | exact wx_crs hW (by omega) | exact wx_new hW) (by omega)) rfl dX9_isTrue_1 rfl ?_
  refine ev_ald0 5 dX9_isTrue_4 rfl ?_
  refine ev_getfield 8 11 1 fl_X9_7_11 (fc_1 hT hf hk) rfl dX9_isTrue_5 rfl ?_
  refine tv_zald 9 (tr5 hT (by first | assumption | exact wx_stu hW (by omega) | exact wx_crs hW (by omega) | exact wx_new hW) (by omega)) ((X 16 f 1).toNat) (by omega) (by omega) (by omega) dX9_isTrue_8 rfl ?_
  refine tj_if_ne 23 12 dX9_isTrue_9 (by decide) rfl (by first | exact TR.rng hT _ _ _ | exact R31_of _ | exact bi_R _ | (constructor <;> omega)) (fun c9 => ?_) (fun c9 => ?_)
  · skip
    refine tj_iconst 24 dX9_isTrue_23 rfl ?_
    refine ev_goto 28 dX9_isTrue_24 (by decide) ?_
    exact tz_ret (by first | rfl | omega | exact bi_dt (by omega) | exact bi_df (by omega) | (rw [evF, if_neg (by omega), if_pos hk]; first | exact tg_1 c9 | exact tg_2 (by omega) c20 | exact tg_3 (by omega) c20)) rfl dX9_isTrue_28
  · skip
    refine ev_ald1 13 dX9_isTrue_12 rfl ?_
    refine ev_ald0 14 dX9_isTrue_13 rfl ?_
    refine ev_getfield 17 11 1 fl_X9_7_11 (fc_1 hT hf hk) rfl dX9_isTrue_14 rfl ?_
    refine tc_V1 20 10 dX9_isTrue_17 lkv_X9_19 (tr4 hT (by first | assumption | exact wx_stu hW (by omega) | exact wx_crs hW (by omega) | exact wx_new hW) (by omega)) rfl rfl (by first | decide | omega) (Nat.le_of_ble_eq_true rfl) (hp_i hT hs hl h1) ?_
    refine tb_if_eq 27 23 dX9_isTrue_20 (by decide) rfl (fun c20 => ?_) (fun c20 => ?_)
    · skip
      refine tj_iconst 28 dX9_isTrue_27 rfl ?_
      exact tz_ret (by first | rfl | omega | exact bi_dt (by omega) | exact bi_df (by omega) | (rw [evF, if_neg (by omega), if_pos hk]; first | exact tg_1 c9 | exact tg_2 (by omega) c20 | exact tg_3 (by omega) c20)) rfl dX9_isTrue_28
    · skip
      refine tj_iconst 24 dX9_isTrue_23 rfl ?_
      refine ev_goto 28 dX9_isTrue_24 (by decide) ?_
      exact tz_ret (by first | rfl | omega | exact bi_dt (by omega) | exact bi_df (by omega) | (rw [evF, if_neg (by omega), if_pos hk]; first | exact tg_1 c9 | exact tg_2 (by omega) c20 | exact tg_3 (by omega) c20)) rfl dX9_isTrue_28
set_option maxRecDepth 100000 in
set_option maxHeartbeats 4000000 in
theorem c_X3_isTrue {g : Gt} {α : AL} {ν : Nat → Nat → Bool} {X : XM} {h : AH} (hT : TR g α ν X h) {s : Nat} (hs : ν 4 s = true) (hl : s < 17) {f : Nat} (hf : ν 16 f = true) {e : Int} (he : R31 e) {T : Int64} (hk : X 16 f 9 = 2) : Pr g M_X3_isTrue 1 [.ref (α 16 f), .ref (α 4 s), .int (J e), .long T] h (some (.int (J (bi (evF X (X 8 s) (tak X s) e f (lb T)))))) := by
  refine pr_of rfl rfl (ls := [some (.ref (α 16 f)), some (.ref (α 4 s)), some (.int (J e)), some (.long T), none]) rfl (Nat.le_of_ble_eq_true rfl) ?_
  show Ev g M_X3_isTrue 1 0 [some (.ref (α 16 f)), some (.ref (α 4 s)), some (.int (J e)), some (.long T), none] [] h 0 0 (PQ (some (.int (J (bi (evF X (X 8 s) (tak X s) e f (lb T)))))) h)
  refine ev_ild2 1 dX3_isTrue_0 rfl ?_
  refine ev_ald0 2 dX3_isTrue_1 rfl ?_
  refine ev_getfield 5 6 1 fl_X3_7_6 (fc_2 hT hf hk) rfl dX3_isTrue_2 rfl ?_
  refine tj_icmp_lt 12 8 dX3_isTrue_5 (by decide) rfl (by first | exact TR.rng hT _ _ _ | exact R31_of _ | exact bi_R _ | (constructor <;> omega)) (by first | exact TR.rng hT _ _ _ | exact R31_of _ | exact bi_R _ | (constructor <;> omega)) (fun c5 => ?_) (fun c5 => ?_)
  · skip
    refine tj_iconst 13 dX3_isTrue_12 rfl ?_
    exact tz_ret (by first | rfl | omega | exact bi_dt (by omega) | exact bi_df (by omega) | (rw [evF, if_neg (by omega), if_neg (by omega), if_pos hk]; first | exact bi_dt (by omega) | exact bi_df (by omega))) rfl dX3_isTrue_13
  · skip
    refine tj_iconst 9 dX3_isTrue_8 rfl ?_
    refine ev_goto 13 dX3_isTrue_9 (by decide) ?_
    exact tz_ret (by first | rfl | omega | exact bi_dt (by omega) | exact bi_df (by omega) | (rw [evF, if_neg (by omega), if_neg (by omega), if_pos hk]; first | exact bi_dt (by omega) | exact bi_df (by omega))) rfl dX3_isTrue_13
set_option maxRecDepth 100000 in
set_option maxHeartbeats 4000000 in
theorem c_X1_isTrue {g : Gt} {α : AL} {ν : Nat → Nat → Bool} {X : XM} {h : AH} (hT : TR g α ν X h) {s : Nat} (hs : ν 4 s = true) (hl : s < 17) {f : Nat} (hf : ν 16 f = true) {e : Int} (he : R31 e) {T : Int64} (hk : X 16 f 9 = 3) (h1 : 0 ≤ X 16 f 2 ∧ X 16 f 2 < 60 ∧ 0 ≤ X 16 f 3 ∧ X 16 f 3 < 60 ∧ -1 ≤ X 16 f 4 ∧ X 16 f 4 < 60) : Pr g M_X1_isTrue 1 [.ref (α 16 f), .ref (α 4 s), .int (J e), .long T] h (some (.int (J (bi (evF X (X 8 s) (tak X s) e f (lb T)))))) := by
  refine pr_of rfl rfl (ls := [some (.ref (α 16 f)), some (.ref (α 4 s)), some (.int (J e)), some (.long T), none, none]) rfl (Nat.le_of_ble_eq_true rfl) ?_
  show Ev g M_X1_isTrue 1 0 [some (.ref (α 16 f)), some (.ref (α 4 s)), some (.int (J e)), some (.long T), none, none] [] h 0 0 (PQ (some (.int (J (bi (evF X (X 8 s) (tak X s) e f (lb T)))))) h)
  refine tj_iconst 1 dX1_isTrue_0 rfl ?_
  refine ev_ist5 3 dX1_isTrue_1 rfl (by decide) rfl ?_
  refine ev_ald0 4 dX1_isTrue_3 rfl ?_
  refine ev_getfield 7 4 2 fl_X1_15_4 (fc_3 hT hf hk) rfl dX1_isTrue_4 rfl ?_
  refine ev_lld3 8 dX1_isTrue_7 rfl ?_
  refine tc_SN2 11 dX1_isTrue_8 lkn_X1_24 st_X11_isMet rfl (by first | decide | omega) (Nat.le_of_ble_eq_true rfl) (isMet_n (by omega)) ?_
  refine tb_if_eq 17 14 dX1_isTrue_11 (by decide) rfl (fun c11 => ?_) (fun c11 => ?_)
  · skip
    refine ev_ald0 18 dX1_isTrue_17 rfl ?_
    refine ev_getfield 21 4 3 fl_X1_18_4 (fc_3 hT hf hk) rfl dX1_isTrue_18 rfl ?_
    refine ev_lld3 22 dX1_isTrue_21 rfl ?_
    refine tc_SN2 25 dX1_isTrue_22 lkn_X1_24 st_X11_isMet rfl (by first | decide | omega) (Nat.le_of_ble_eq_true rfl) (isMet_n (by omega)) ?_
    refine tb_if_eq 31 28 dX1_isTrue_25 (by decide) rfl (fun c25 => ?_) (fun c25 => ?_)
    · skip
      refine ev_ald0 32 dX1_isTrue_31 rfl ?_
      refine ev_getfield 35 4 4 fl_X1_21_4 (fc_3 hT hf hk) rfl dX1_isTrue_32 rfl ?_
      refine tj_iconst 36 dX1_isTrue_35 rfl ?_
      refine tj_icmp_eq 53 39 dX1_isTrue_36 (by decide) rfl (by first | exact TR.rng hT _ _ _ | exact R31_of _ | exact bi_R _ | (constructor <;> omega)) (by first | exact TR.rng hT _ _ _ | exact R31_of _ | exact bi_R _ | (constructor <;> omega)) (fun c36 => ?_) (fun c36 => ?_)
      · skip
        refine ev_ild5 55 dX1_isTrue_53 rfl ?_
        refine ev_ald0 56 dX1_isTrue_55 rfl ?_
        refine ev_getfield 59 4 1 fl_X1_9_4 (fc_3 hT hf hk) rfl dX1_isTrue_56 rfl ?_
        refine tj_icmp_lt 66 62 dX1_isTrue_59 (by decide) rfl (by first | exact TR.rng hT _ _ _ | exact R31_of _ | exact bi_R _ | (constructor <;> omega)) (by first | exact TR.rng hT _ _ _ | exact R31_of _ | exact bi_R _ | (constructor <;> omega)) (fun c59 => ?_) (fun c59 => ?_)
        · skip
          refine tj_iconst 67 dX1_isTrue_66 rfl ?_
          exact tz_ret (by first | rfl | omega | exact bi_dt (by omega) | exact bi_df (by omega) | (rw [evF, if_neg (by omega), if_neg (by omega), if_neg (by omega), if_pos hk]; (try rw [show lb T (X 16 f 2).toNat = true by assumption]); (try rw [show lb T (X 16 f 2).toNat = false by assumption]); (try rw [show lb T (X 16 f 3).toNat = true by assumption]); (try rw [show lb T (X 16 f 3).toNat = false by assumption]); (first | rw [thr0 (by omega)] | rw [thr1 (by omega)]); (try rw [show lb T (X 16 f 4).toNat = true by assumption]); (try rw [show lb T (X 16 f 4).toNat = false by assumption]); simp only [bi_t, bi_f]; first | exact bi_dt (by omega) | exact bi_df (by omega))) rfl dX1_isTrue_67
        · skip
          refine tj_iconst 63 dX1_isTrue_62 rfl ?_
          refine ev_goto 67 dX1_isTrue_63 (by decide) ?_
          exact tz_ret (by first | rfl | omega | exact bi_dt (by omega) | exact bi_df (by omega) | (rw [evF, if_neg (by omega), if_neg (by omega), if_neg (by omega), if_pos hk]; (try rw [show lb T (X 16 f 2).toNat = true by assumption]); (try rw [show lb T (X 16 f 2).toNat = false by assumption]); (try rw [show lb T (X 16 f 3).toNat = true by assumption]); (try rw [show lb T (X 16 f 3).toNat = false by assumption]); (first | rw [thr0 (by omega)] | rw [thr1 (by omega)]); (try rw [show lb T (X 16 f 4).toNat = true by assumption]); (try rw [show lb T (X 16 f 4).toNat = false by assumption]); simp only [bi_t, bi_f]; first | exact bi_dt (by omega) | exact bi_df (by omega))) rfl dX1_isTrue_67
      · skip
        refine ev_ald0 40 dX1_isTrue_39 rfl ?_
        refine ev_getfield 43 4 4 fl_X1_21_4 (fc_3 hT hf hk) rfl dX1_isTrue_40 rfl ?_
        refine ev_lld3 44 dX1_isTrue_43 rfl ?_
        refine tc_SN2 47 dX1_isTrue_44 lkn_X1_24 st_X11_isMet rfl (by first | decide | omega) (Nat.le_of_ble_eq_true rfl) (isMet_n (by omega)) ?_
        refine tb_if_eq 53 50 dX1_isTrue_47 (by decide) rfl (fun c47 => ?_) (fun c47 => ?_)
        · skip
          refine ev_ild5 55 dX1_isTrue_53 rfl ?_
          refine ev_ald0 56 dX1_isTrue_55 rfl ?_
          refine ev_getfield 59 4 1 fl_X1_9_4 (fc_3 hT hf hk) rfl dX1_isTrue_56 rfl ?_
          refine tj_icmp_lt 66 62 dX1_isTrue_59 (by decide) rfl (by first | exact TR.rng hT _ _ _ | exact R31_of _ | exact bi_R _ | (constructor <;> omega)) (by first | exact TR.rng hT _ _ _ | exact R31_of _ | exact bi_R _ | (constructor <;> omega)) (fun c59 => ?_) (fun c59 => ?_)
          · skip
            refine tj_iconst 67 dX1_isTrue_66 rfl ?_
            exact tz_ret (by first | rfl | omega | exact bi_dt (by omega) | exact bi_df (by omega) | (rw [evF, if_neg (by omega), if_neg (by omega), if_neg (by omega), if_pos hk]; (try rw [show lb T (X 16 f 2).toNat = true by assumption]); (try rw [show lb T (X 16 f 2).toNat = false by assumption]); (try rw [show lb T (X 16 f 3).toNat = true by assumption]); (try rw [show lb T (X 16 f 3).toNat = false by assumption]); (first | rw [thr0 (by omega)] | rw [thr1 (by omega)]); (try rw [show lb T (X 16 f 4).toNat = true by assumption]); (try rw [show lb T (X 16 f 4).toNat = false by assumption]); simp only [bi_t, bi_f]; first | exact bi_dt (by omega) | exact bi_df (by omega))) rfl dX1_isTrue_67
          · skip
            refine tj_iconst 63 dX1_isTrue_62 rfl ?_
            refine ev_goto 67 dX1_isTrue_63 (by decide) ?_
            exact tz_ret (by first | rfl | omega | exact bi_dt (by omega) | exact bi_df (by omega) | (rw [evF, if_neg (by omega), if_neg (by omega), if_neg (by omega), if_pos hk]; (try rw [show lb T (X 16 f 2).toNat = true by assumption]); (try rw [show lb T (X 16 f 2).toNat = false by assumption]); (try rw [show lb T (X 16 f 3).toNat = true by assumption]); (try rw [show lb T (X 16 f 3).toNat = false by assumption]); (first | rw [thr0 (by omega)] | rw [thr1 (by omega)]); (try rw [show lb T (X 16 f 4).toNat = true by assumption]); (try rw [show lb T (X 16 f 4).toNat = false by assumption]); simp only [bi_t, bi_f]; first | exact bi_dt (by omega) | exact bi_df (by omega))) rfl dX1_isTrue_67
        · skip
          refine tj_inc5 53 dX1_isTrue_50 rfl (by decide) rfl ?_
          refine ev_ild5 55 dX1_isTrue_53 rfl ?_
          refine ev_ald0 56 dX1_isTrue_55 rfl ?_
          refine ev_getfield 59 4 1 fl_X1_9_4 (fc_3 hT hf hk) rfl dX1_isTrue_56 rfl ?_
          refine tj_icmp_lt 66 62 dX1_isTrue_59 (by decide) rfl (by first | exact TR.rng hT _ _ _ | exact R31_of _ | exact bi_R _ | (constructor <;> omega)) (by first | exact TR.rng hT _ _ _ | exact R31_of _ | exact bi_R _ | (constructor <;> omega)) (fun c59 => ?_) (fun c59 => ?_)
          · skip
            refine tj_iconst 67 dX1_isTrue_66 rfl ?_
            exact tz_ret (by first | rfl | omega | exact bi_dt (by omega) | exact bi_df (by omega) | (rw [evF, if_neg (by omega), if_neg (by omega), if_neg (by omega), if_pos hk]; (try rw [show lb T (X 16 f 2).toNat = true by assumption]); (try rw [show lb T (X 16 f 2).toNat = false by assumption]); (try rw [show lb T (X 16 f 3).toNat = true by assumption]); (try rw [show lb T (X 16 f 3).toNat = false by assumption]); (first | rw [thr0 (by omega)] | rw [thr1 (by omega)]); (try rw [show lb T (X 16 f 4).toNat = true by assumption]); (try rw [show lb T (X 16 f 4).toNat = false by assumption]); simp only [bi_t, bi_f]; first | exact bi_dt (by omega) | exact bi_df (by omega))) rfl dX1_isTrue_67
          · skip
            refine tj_iconst 63 dX1_isTrue_62 rfl ?_
            refine ev_goto 67 dX1_isTrue_63 (by decide) ?_
            exact tz_ret (by first | rfl | omega | exact bi_dt (by omega) | exact bi_df (by omega) | (rw [evF, if_neg (by omega), if_neg (by omega), if_neg (by omega), if_pos hk]; (try rw [show lb T (X 16 f 2).toNat = true by assumption]); (try rw [show lb T (X 16 f 2).toNat = false by assumption]); (try rw [show lb T (X 16 f 3).toNat = true by assumption]); (try rw [show lb T (X 16 f 3).toNat = false by assumption]); (first | rw [thr0 (by omega)] | rw [thr1 (by omega)]); (try rw [show lb T (X 16 f 4).toNat = true by assumption]); (try rw [show lb T (X 16 f 4).toNat = false by assumption]); simp only [bi_t, bi_f]; first | exact bi_dt (by omega) | exact bi_df (by omega))) rfl dX1_isTrue_67
    · skip
      refine tj_inc5 31 dX1_isTrue_28 rfl (by decide) rfl ?_
      refine ev_ald0 32 dX1_isTrue_31 rfl ?_
      refine ev_getfield 35 4 4 fl_X1_21_4 (fc_3 hT hf hk) rfl dX1_isTrue_32 rfl ?_
      refine tj_iconst 36 dX1_isTrue_35 rfl ?_
      refine tj_icmp_eq 53 39 dX1_isTrue_36 (by decide) rfl (by first | exact TR.rng hT _ _ _ | exact R31_of _ | exact bi_R _ | (constructor <;> omega)) (by first | exact TR.rng hT _ _ _ | exact R31_of _ | exact bi_R _ | (constructor <;> omega)) (fun c36 => ?_) (fun c36 => ?_)
      · skip
        refine ev_ild5 55 dX1_isTrue_53 rfl ?_
        refine ev_ald0 56 dX1_isTrue_55 rfl ?_
        refine ev_getfield 59 4 1 fl_X1_9_4 (fc_3 hT hf hk) rfl dX1_isTrue_56 rfl ?_
        refine tj_icmp_lt 66 62 dX1_isTrue_59 (by decide) rfl (by first | exact TR.rng hT _ _ _ | exact R31_of _ | exact bi_R _ | (constructor <;> omega)) (by first | exact TR.rng hT _ _ _ | exact R31_of _ | exact bi_R _ | (constructor <;> omega)) (fun c59 => ?_) (fun c59 => ?_)
        · skip
          refine tj_iconst 67 dX1_isTrue_66 rfl ?_
          exact tz_ret (by first | rfl | omega | exact bi_dt (by omega) | exact bi_df (by omega) | (rw [evF, if_neg (by omega), if_neg (by omega), if_neg (by omega), if_pos hk]; (try rw [show lb T (X 16 f 2).toNat = true by assumption]); (try rw [show lb T (X 16 f 2).toNat = false by assumption]); (try rw [show lb T (X 16 f 3).toNat = true by assumption]); (try rw [show lb T (X 16 f 3).toNat = false by assumption]); (first | rw [thr0 (by omega)] | rw [thr1 (by omega)]); (try rw [show lb T (X 16 f 4).toNat = true by assumption]); (try rw [show lb T (X 16 f 4).toNat = false by assumption]); simp only [bi_t, bi_f]; first | exact bi_dt (by omega) | exact bi_df (by omega))) rfl dX1_isTrue_67
        · skip
          refine tj_iconst 63 dX1_isTrue_62 rfl ?_
          refine ev_goto 67 dX1_isTrue_63 (by decide) ?_
          exact tz_ret (by first | rfl | omega | exact bi_dt (by omega) | exact bi_df (by omega) | (rw [evF, if_neg (by omega), if_neg (by omega), if_neg (by omega), if_pos hk]; (try rw [show lb T (X 16 f 2).toNat = true by assumption]); (try rw [show lb T (X 16 f 2).toNat = false by assumption]); (try rw [show lb T (X 16 f 3).toNat = true by assumption]); (try rw [show lb T (X 16 f 3).toNat = false by assumption]); (first | rw [thr0 (by omega)] | rw [thr1 (by omega)]); (try rw [show lb T (X 16 f 4).toNat = true by assumption]); (try rw [show lb T (X 16 f 4).toNat = false by assumption]); simp only [bi_t, bi_f]; first | exact bi_dt (by omega) | exact bi_df (by omega))) rfl dX1_isTrue_67
      · skip
        refine ev_ald0 40 dX1_isTrue_39 rfl ?_
        refine ev_getfield 43 4 4 fl_X1_21_4 (fc_3 hT hf hk) rfl dX1_isTrue_40 rfl ?_
        refine ev_lld3 44 dX1_isTrue_43 rfl ?_
        refine tc_SN2 47 dX1_isTrue_44 lkn_X1_24 st_X11_isMet rfl (by first | decide | omega) (Nat.le_of_ble_eq_true rfl) (isMet_n (by omega)) ?_
        refine tb_if_eq 53 50 dX1_isTrue_47 (by decide) rfl (fun c47 => ?_) (fun c47 => ?_)
        · skip
          refine ev_ild5 55 dX1_isTrue_53 rfl ?_
          refine ev_ald0 56 dX1_isTrue_55 rfl ?_
          refine ev_getfield 59 4 1 fl_X1_9_4 (fc_3 hT hf hk) rfl dX1_isTrue_56 rfl ?_
          refine tj_icmp_lt 66 62 dX1_isTrue_59 (by decide) rfl (by first | exact TR.rng hT _ _ _ | exact R31_of _ | exact bi_R _ | (constructor <;> omega)) (by first | exact TR.rng hT _ _ _ | exact R31_of _ | exact bi_R _ | (constructor <;> omega)) (fun c59 => ?_) (fun c59 => ?_)
          · skip
            refine tj_iconst 67 dX1_isTrue_66 rfl ?_
            exact tz_ret (by first | rfl | omega | exact bi_dt (by omega) | exact bi_df (by omega) | (rw [evF, if_neg (by omega), if_neg (by omega), if_neg (by omega), if_pos hk]; (try rw [show lb T (X 16 f 2).toNat = true by assumption]); (try rw [show lb T (X 16 f 2).toNat = false by assumption]); (try rw [show lb T (X 16 f 3).toNat = true by assumption]); (try rw [show lb T (X 16 f 3).toNat = false by assumption]); (first | rw [thr0 (by omega)] | rw [thr1 (by omega)]); (try rw [show lb T (X 16 f 4).toNat = true by assumption]); (try rw [show lb T (X 16 f 4).toNat = false by assumption]); simp only [bi_t, bi_f]; first | exact bi_dt (by omega) | exact bi_df (by omega))) rfl dX1_isTrue_67
          · skip
            refine tj_iconst 63 dX1_isTrue_62 rfl ?_
            refine ev_goto 67 dX1_isTrue_63 (by decide) ?_
            exact tz_ret (by first | rfl | omega | exact bi_dt (by omega) | exact bi_df (by omega) | (rw [evF, if_neg (by omega), if_neg (by omega), if_neg (by omega), if_pos hk]; (try rw [show lb T (X 16 f 2).toNat = true by assumption]); (try rw [show lb T (X 16 f 2).toNat = false by assumption]); (try rw [show lb T (X 16 f 3).toNat = true by assumption]); (try rw [show lb T (X 16 f 3).toNat = false by assumption]); (first | rw [thr0 (by omega)] | rw [thr1 (by omega)]); (try rw [show lb T (X 16 f 4).toNat = true by assumption]); (try rw [show lb T (X 16 f 4).toNat = false by assumption]); simp only [bi_t, bi_f]; first | exact bi_dt (by omega) | exact bi_df (by omega))) rfl dX1_isTrue_67
        · skip
          refine tj_inc5 53 dX1_isTrue_50 rfl (by decide) rfl ?_
          refine ev_ild5 55 dX1_isTrue_53 rfl ?_
          refine ev_ald0 56 dX1_isTrue_55 rfl ?_
          refine ev_getfield 59 4 1 fl_X1_9_4 (fc_3 hT hf hk) rfl dX1_isTrue_56 rfl ?_
          refine tj_icmp_lt 66 62 dX1_isTrue_59 (by decide) rfl (by first | exact TR.rng hT _ _ _ | exact R31_of _ | exact bi_R _ | (constructor <;> omega)) (by first | exact TR.rng hT _ _ _ | exact R31_of _ | exact bi_R _ | (constructor <;> omega)) (fun c59 => ?_) (fun c59 => ?_)
          · skip
            refine tj_iconst 67 dX1_isTrue_66 rfl ?_
            exact tz_ret (by first | rfl | omega | exact bi_dt (by omega) | exact bi_df (by omega) | (rw [evF, if_neg (by omega), if_neg (by omega), if_neg (by omega), if_pos hk]; (try rw [show lb T (X 16 f 2).toNat = true by assumption]); (try rw [show lb T (X 16 f 2).toNat = false by assumption]); (try rw [show lb T (X 16 f 3).toNat = true by assumption]); (try rw [show lb T (X 16 f 3).toNat = false by assumption]); (first | rw [thr0 (by omega)] | rw [thr1 (by omega)]); (try rw [show lb T (X 16 f 4).toNat = true by assumption]); (try rw [show lb T (X 16 f 4).toNat = false by assumption]); simp only [bi_t, bi_f]; first | exact bi_dt (by omega) | exact bi_df (by omega))) rfl dX1_isTrue_67
          · skip
            refine tj_iconst 63 dX1_isTrue_62 rfl ?_
            refine ev_goto 67 dX1_isTrue_63 (by decide) ?_
            exact tz_ret (by first | rfl | omega | exact bi_dt (by omega) | exact bi_df (by omega) | (rw [evF, if_neg (by omega), if_neg (by omega), if_neg (by omega), if_pos hk]; (try rw [show lb T (X 16 f 2).toNat = true by assumption]); (try rw [show lb T (X 16 f 2).toNat = false by assumption]); (try rw [show lb T (X 16 f 3).toNat = true by assumption]); (try rw [show lb T (X 16 f 3).toNat = false by assumption]); (first | rw [thr0 (by omega)] | rw [thr1 (by omega)]); (try rw [show lb T (X 16 f 4).toNat = true by assumption]); (try rw [show lb T (X 16 f 4).toNat = false by assumption]); simp only [bi_t, bi_f]; first | exact bi_dt (by omega) | exact bi_df (by omega))) rfl dX1_isTrue_67
  · skip
    refine tj_inc5 17 dX1_isTrue_14 rfl (by decide) rfl ?_
    refine ev_ald0 18 dX1_isTrue_17 rfl ?_
    refine ev_getfield 21 4 3 fl_X1_18_4 (fc_3 hT hf hk) rfl dX1_isTrue_18 rfl ?_
    refine ev_lld3 22 dX1_isTrue_21 rfl ?_
    refine tc_SN2 25 dX1_isTrue_22 lkn_X1_24 st_X11_isMet rfl (by first | decide | omega) (Nat.le_of_ble_eq_true rfl) (isMet_n (by omega)) ?_
    refine tb_if_eq 31 28 dX1_isTrue_25 (by decide) rfl (fun c25 => ?_) (fun c25 => ?_)
    · skip
      refine ev_ald0 32 dX1_isTrue_31 rfl ?_
      refine ev_getfield 35 4 4 fl_X1_21_4 (fc_3 hT hf hk) rfl dX1_isTrue_32 rfl ?_
      refine tj_iconst 36 dX1_isTrue_35 rfl ?_
      refine tj_icmp_eq 53 39 dX1_isTrue_36 (by decide) rfl (by first | exact TR.rng hT _ _ _ | exact R31_of _ | exact bi_R _ | (constructor <;> omega)) (by first | exact TR.rng hT _ _ _ | exact R31_of _ | exact bi_R _ | (constructor <;> omega)) (fun c36 => ?_) (fun c36 => ?_)
      · skip
        refine ev_ild5 55 dX1_isTrue_53 rfl ?_
        refine ev_ald0 56 dX1_isTrue_55 rfl ?_
        refine ev_getfield 59 4 1 fl_X1_9_4 (fc_3 hT hf hk) rfl dX1_isTrue_56 rfl ?_
        refine tj_icmp_lt 66 62 dX1_isTrue_59 (by decide) rfl (by first | exact TR.rng hT _ _ _ | exact R31_of _ | exact bi_R _ | (constructor <;> omega)) (by first | exact TR.rng hT _ _ _ | exact R31_of _ | exact bi_R _ | (constructor <;> omega)) (fun c59 => ?_) (fun c59 => ?_)
        · skip
          refine tj_iconst 67 dX1_isTrue_66 rfl ?_
          exact tz_ret (by first | rfl | omega | exact bi_dt (by omega) | exact bi_df (by omega) | (rw [evF, if_neg (by omega), if_neg (by omega), if_neg (by omega), if_pos hk]; (try rw [show lb T (X 16 f 2).toNat = true by assumption]); (try rw [show lb T (X 16 f 2).toNat = false by assumption]); (try rw [show lb T (X 16 f 3).toNat = true by assumption]); (try rw [show lb T (X 16 f 3).toNat = false by assumption]); (first | rw [thr0 (by omega)] | rw [thr1 (by omega)]); (try rw [show lb T (X 16 f 4).toNat = true by assumption]); (try rw [show lb T (X 16 f 4).toNat = false by assumption]); simp only [bi_t, bi_f]; first | exact bi_dt (by omega) | exact bi_df (by omega))) rfl dX1_isTrue_67
        · skip
          refine tj_iconst 63 dX1_isTrue_62 rfl ?_
          refine ev_goto 67 dX1_isTrue_63 (by decide) ?_
          exact tz_ret (by first | rfl | omega | exact bi_dt (by omega) | exact bi_df (by omega) | (rw [evF, if_neg (by omega), if_neg (by omega), if_neg (by omega), if_pos hk]; (try rw [show lb T (X 16 f 2).toNat = true by assumption]); (try rw [show lb T (X 16 f 2).toNat = false by assumption]); (try rw [show lb T (X 16 f 3).toNat = true by assumption]); (try rw [show lb T (X 16 f 3).toNat = false by assumption]); (first | rw [thr0 (by omega)] | rw [thr1 (by omega)]); (try rw [show lb T (X 16 f 4).toNat = true by assumption]); (try rw [show lb T (X 16 f 4).toNat = false by assumption]); simp only [bi_t, bi_f]; first | exact bi_dt (by omega) | exact bi_df (by omega))) rfl dX1_isTrue_67
      · skip
        refine ev_ald0 40 dX1_isTrue_39 rfl ?_
        refine ev_getfield 43 4 4 fl_X1_21_4 (fc_3 hT hf hk) rfl dX1_isTrue_40 rfl ?_
        refine ev_lld3 44 dX1_isTrue_43 rfl ?_
        refine tc_SN2 47 dX1_isTrue_44 lkn_X1_24 st_X11_isMet rfl (by first | decide | omega) (Nat.le_of_ble_eq_true rfl) (isMet_n (by omega)) ?_
        refine tb_if_eq 53 50 dX1_isTrue_47 (by decide) rfl (fun c47 => ?_) (fun c47 => ?_)
        · skip
          refine ev_ild5 55 dX1_isTrue_53 rfl ?_
          refine ev_ald0 56 dX1_isTrue_55 rfl ?_
          refine ev_getfield 59 4 1 fl_X1_9_4 (fc_3 hT hf hk) rfl dX1_isTrue_56 rfl ?_
          refine tj_icmp_lt 66 62 dX1_isTrue_59 (by decide) rfl (by first | exact TR.rng hT _ _ _ | exact R31_of _ | exact bi_R _ | (constructor <;> omega)) (by first | exact TR.rng hT _ _ _ | exact R31_of _ | exact bi_R _ | (constructor <;> omega)) (fun c59 => ?_) (fun c59 => ?_)
          · skip
            refine tj_iconst 67 dX1_isTrue_66 rfl ?_
            exact tz_ret (by first | rfl | omega | exact bi_dt (by omega) | exact bi_df (by omega) | (rw [evF, if_neg (by omega), if_neg (by omega), if_neg (by omega), if_pos hk]; (try rw [show lb T (X 16 f 2).toNat = true by assumption]); (try rw [show lb T (X 16 f 2).toNat = false by assumption]); (try rw [show lb T (X 16 f 3).toNat = true by assumption]); (try rw [show lb T (X 16 f 3).toNat = false by assumption]); (first | rw [thr0 (by omega)] | rw [thr1 (by omega)]); (try rw [show lb T (X 16 f 4).toNat = true by assumption]); (try rw [show lb T (X 16 f 4).toNat = false by assumption]); simp only [bi_t, bi_f]; first | exact bi_dt (by omega) | exact bi_df (by omega))) rfl dX1_isTrue_67
          · skip
            refine tj_iconst 63 dX1_isTrue_62 rfl ?_
            refine ev_goto 67 dX1_isTrue_63 (by decide) ?_
            exact tz_ret (by first | rfl | omega | exact bi_dt (by omega) | exact bi_df (by omega) | (rw [evF, if_neg (by omega), if_neg (by omega), if_neg (by omega), if_pos hk]; (try rw [show lb T (X 16 f 2).toNat = true by assumption]); (try rw [show lb T (X 16 f 2).toNat = false by assumption]); (try rw [show lb T (X 16 f 3).toNat = true by assumption]); (try rw [show lb T (X 16 f 3).toNat = false by assumption]); (first | rw [thr0 (by omega)] | rw [thr1 (by omega)]); (try rw [show lb T (X 16 f 4).toNat = true by assumption]); (try rw [show lb T (X 16 f 4).toNat = false by assumption]); simp only [bi_t, bi_f]; first | exact bi_dt (by omega) | exact bi_df (by omega))) rfl dX1_isTrue_67
        · skip
          refine tj_inc5 53 dX1_isTrue_50 rfl (by decide) rfl ?_
          refine ev_ild5 55 dX1_isTrue_53 rfl ?_
          refine ev_ald0 56 dX1_isTrue_55 rfl ?_
          refine ev_getfield 59 4 1 fl_X1_9_4 (fc_3 hT hf hk) rfl dX1_isTrue_56 rfl ?_
          refine tj_icmp_lt 66 62 dX1_isTrue_59 (by decide) rfl (by first | exact TR.rng hT _ _ _ | exact R31_of _ | exact bi_R _ | (constructor <;> omega)) (by first | exact TR.rng hT _ _ _ | exact R31_of _ | exact bi_R _ | (constructor <;> omega)) (fun c59 => ?_) (fun c59 => ?_)
          · skip
            refine tj_iconst 67 dX1_isTrue_66 rfl ?_
            exact tz_ret (by first | rfl | omega | exact bi_dt (by omega) | exact bi_df (by omega) | (rw [evF, if_neg (by omega), if_neg (by omega), if_neg (by omega), if_pos hk]; (try rw [show lb T (X 16 f 2).toNat = true by assumption]); (try rw [show lb T (X 16 f 2).toNat = false by assumption]); (try rw [show lb T (X 16 f 3).toNat = true by assumption]); (try rw [show lb T (X 16 f 3).toNat = false by assumption]); (first | rw [thr0 (by omega)] | rw [thr1 (by omega)]); (try rw [show lb T (X 16 f 4).toNat = true by assumption]); (try rw [show lb T (X 16 f 4).toNat = false by assumption]); simp only [bi_t, bi_f]; first | exact bi_dt (by omega) | exact bi_df (by omega))) rfl dX1_isTrue_67
          · skip
            refine tj_iconst 63 dX1_isTrue_62 rfl ?_
            refine ev_goto 67 dX1_isTrue_63 (by decide) ?_
            exact tz_ret (by first | rfl | omega | exact bi_dt (by omega) | exact bi_df (by omega) | (rw [evF, if_neg (by omega), if_neg (by omega), if_neg (by omega), if_pos hk]; (try rw [show lb T (X 16 f 2).toNat = true by assumption]); (try rw [show lb T (X 16 f 2).toNat = false by assumption]); (try rw [show lb T (X 16 f 3).toNat = true by assumption]); (try rw [show lb T (X 16 f 3).toNat = false by assumption]); (first | rw [thr0 (by omega)] | rw [thr1 (by omega)]); (try rw [show lb T (X 16 f 4).toNat = true by assumption]); (try rw [show lb T (X 16 f 4).toNat = false by assumption]); simp only [bi_t, bi_f]; first | exact bi_dt (by omega) | exact bi_df (by omega))) rfl dX1_isTrue_67
    · skip
      refine tj_inc5 31 dX1_isTrue_28 rfl (by decide) rfl ?_
      refine ev_ald0 32 dX1_isTrue_31 rfl ?_
      refine ev_getfield 35 4 4 fl_X1_21_4 (fc_3 hT hf hk) rfl dX1_isTrue_32 rfl ?_
      refine tj_iconst 36 dX1_isTrue_35 rfl ?_
      refine tj_icmp_eq 53 39 dX1_isTrue_36 (by decide) rfl (by first | exact TR.rng hT _ _ _ | exact R31_of _ | exact bi_R _ | (constructor <;> omega)) (by first | exact TR.rng hT _ _ _ | exact R31_of _ | exact bi_R _ | (constructor <;> omega)) (fun c36 => ?_) (fun c36 => ?_)
      · skip
        refine ev_ild5 55 dX1_isTrue_53 rfl ?_
        refine ev_ald0 56 dX1_isTrue_55 rfl ?_
        refine ev_getfield 59 4 1 fl_X1_9_4 (fc_3 hT hf hk) rfl dX1_isTrue_56 rfl ?_
        refine tj_icmp_lt 66 62 dX1_isTrue_59 (by decide) rfl (by first | exact TR.rng hT _ _ _ | exact R31_of _ | exact bi_R _ | (constructor <;> omega)) (by first | exact TR.rng hT _ _ _ | exact R31_of _ | exact bi_R _ | (constructor <;> omega)) (fun c59 => ?_) (fun c59 => ?_)
        · skip
          refine tj_iconst 67 dX1_isTrue_66 rfl ?_
          exact tz_ret (by first | rfl | omega | exact bi_dt (by omega) | exact bi_df (by omega) | (rw [evF, if_neg (by omega), if_neg (by omega), if_neg (by omega), if_pos hk]; (try rw [show lb T (X 16 f 2).toNat = true by assumption]); (try rw [show lb T (X 16 f 2).toNat = false by assumption]); (try rw [show lb T (X 16 f 3).toNat = true by assumption]); (try rw [show lb T (X 16 f 3).toNat = false by assumption]); (first | rw [thr0 (by omega)] | rw [thr1 (by omega)]); (try rw [show lb T (X 16 f 4).toNat = true by assumption]); (try rw [show lb T (X 16 f 4).toNat = false by assumption]); simp only [bi_t, bi_f]; first | exact bi_dt (by omega) | exact bi_df (by omega))) rfl dX1_isTrue_67
        · skip
          refine tj_iconst 63 dX1_isTrue_62 rfl ?_
          refine ev_goto 67 dX1_isTrue_63 (by decide) ?_
          exact tz_ret (by first | rfl | omega | exact bi_dt (by omega) | exact bi_df (by omega) | (rw [evF, if_neg (by omega), if_neg (by omega), if_neg (by omega), if_pos hk]; (try rw [show lb T (X 16 f 2).toNat = true by assumption]); (try rw [show lb T (X 16 f 2).toNat = false by assumption]); (try rw [show lb T (X 16 f 3).toNat = true by assumption]); (try rw [show lb T (X 16 f 3).toNat = false by assumption]); (first | rw [thr0 (by omega)] | rw [thr1 (by omega)]); (try rw [show lb T (X 16 f 4).toNat = true by assumption]); (try rw [show lb T (X 16 f 4).toNat = false by assumption]); simp only [bi_t, bi_f]; first | exact bi_dt (by omega) | exact bi_df (by omega))) rfl dX1_isTrue_67
      · skip
        refine ev_ald0 40 dX1_isTrue_39 rfl ?_
        refine ev_getfield 43 4 4 fl_X1_21_4 (fc_3 hT hf hk) rfl dX1_isTrue_40 rfl ?_
        refine ev_lld3 44 dX1_isTrue_43 rfl ?_
        refine tc_SN2 47 dX1_isTrue_44 lkn_X1_24 st_X11_isMet rfl (by first | decide | omega) (Nat.le_of_ble_eq_true rfl) (isMet_n (by omega)) ?_
        refine tb_if_eq 53 50 dX1_isTrue_47 (by decide) rfl (fun c47 => ?_) (fun c47 => ?_)
        · skip
          refine ev_ild5 55 dX1_isTrue_53 rfl ?_
          refine ev_ald0 56 dX1_isTrue_55 rfl ?_
          refine ev_getfield 59 4 1 fl_X1_9_4 (fc_3 hT hf hk) rfl dX1_isTrue_56 rfl ?_
          refine tj_icmp_lt 66 62 dX1_isTrue_59 (by decide) rfl (by first | exact TR.rng hT _ _ _ | exact R31_of _ | exact bi_R _ | (constructor <;> omega)) (by first | exact TR.rng hT _ _ _ | exact R31_of _ | exact bi_R _ | (constructor <;> omega)) (fun c59 => ?_) (fun c59 => ?_)
          · skip
            refine tj_iconst 67 dX1_isTrue_66 rfl ?_
            exact tz_ret (by first | rfl | omega | exact bi_dt (by omega) | exact bi_df (by omega) | (rw [evF, if_neg (by omega), if_neg (by omega), if_neg (by omega), if_pos hk]; (try rw [show lb T (X 16 f 2).toNat = true by assumption]); (try rw [show lb T (X 16 f 2).toNat = false by assumption]); (try rw [show lb T (X 16 f 3).toNat = true by assumption]); (try rw [show lb T (X 16 f 3).toNat = false by assumption]); (first | rw [thr0 (by omega)] | rw [thr1 (by omega)]); (try rw [show lb T (X 16 f 4).toNat = true by assumption]); (try rw [show lb T (X 16 f 4).toNat = false by assumption]); simp only [bi_t, bi_f]; first | exact bi_dt (by omega) | exact bi_df (by omega))) rfl dX1_isTrue_67
          · skip
            refine tj_iconst 63 dX1_isTrue_62 rfl ?_
            refine ev_goto 67 dX1_isTrue_63 (by decide) ?_
            exact tz_ret (by first | rfl | omega | exact bi_dt (by omega) | exact bi_df (by omega) | (rw [evF, if_neg (by omega), if_neg (by omega), if_neg (by omega), if_pos hk]; (try rw [show lb T (X 16 f 2).toNat = true by assumption]); (try rw [show lb T (X 16 f 2).toNat = false by assumption]); (try rw [show lb T (X 16 f 3).toNat = true by assumption]); (try rw [show lb T (X 16 f 3).toNat = false by assumption]); (first | rw [thr0 (by omega)] | rw [thr1 (by omega)]); (try rw [show lb T (X 16 f 4).toNat = true by assumption]); (try rw [show lb T (X 16 f 4).toNat = false by assumption]); simp only [bi_t, bi_f]; first | exact bi_dt (by omega) | exact bi_df (by omega))) rfl dX1_isTrue_67
        · skip
          refine tj_inc5 53 dX1_isTrue_50 rfl (by decide) rfl ?_
          refine ev_ild5 55 dX1_isTrue_53 rfl ?_
          refine ev_ald0 56 dX1_isTrue_55 rfl ?_
          refine ev_getfield 59 4 1 fl_X1_9_4 (fc_3 hT hf hk) rfl dX1_isTrue_56 rfl ?_
          refine tj_icmp_lt 66 62 dX1_isTrue_59 (by decide) rfl (by first | exact TR.rng hT _ _ _ | exact R31_of _ | exact bi_R _ | (constructor <;> omega)) (by first | exact TR.rng hT _ _ _ | exact R31_of _ | exact bi_R _ | (constructor <;> omega)) (fun c59 => ?_) (fun c59 => ?_)
          · skip
            refine tj_iconst 67 dX1_isTrue_66 rfl ?_
            exact tz_ret (by first | rfl | omega | exact bi_dt (by omega) | exact bi_df (by omega) | (rw [evF, if_neg (by omega), if_neg (by omega), if_neg (by omega), if_pos hk]; (try rw [show lb T (X 16 f 2).toNat = true by assumption]); (try rw [show lb T (X 16 f 2).toNat = false by assumption]); (try rw [show lb T (X 16 f 3).toNat = true by assumption]); (try rw [show lb T (X 16 f 3).toNat = false by assumption]); (first | rw [thr0 (by omega)] | rw [thr1 (by omega)]); (try rw [show lb T (X 16 f 4).toNat = true by assumption]); (try rw [show lb T (X 16 f 4).toNat = false by assumption]); simp only [bi_t, bi_f]; first | exact bi_dt (by omega) | exact bi_df (by omega))) rfl dX1_isTrue_67
          · skip
            refine tj_iconst 63 dX1_isTrue_62 rfl ?_
            refine ev_goto 67 dX1_isTrue_63 (by decide) ?_
            exact tz_ret (by first | rfl | omega | exact bi_dt (by omega) | exact bi_df (by omega) | (rw [evF, if_neg (by omega), if_neg (by omega), if_neg (by omega), if_pos hk]; (try rw [show lb T (X 16 f 2).toNat = true by assumption]); (try rw [show lb T (X 16 f 2).toNat = false by assumption]); (try rw [show lb T (X 16 f 3).toNat = true by assumption]); (try rw [show lb T (X 16 f 3).toNat = false by assumption]); (first | rw [thr0 (by omega)] | rw [thr1 (by omega)]); (try rw [show lb T (X 16 f 4).toNat = true by assumption]); (try rw [show lb T (X 16 f 4).toNat = false by assumption]); simp only [bi_t, bi_f]; first | exact bi_dt (by omega) | exact bi_df (by omega))) rfl dX1_isTrue_67
set_option maxRecDepth 100000 in
set_option maxHeartbeats 4000000 in
theorem c_X6_isTrue {g : Gt} {α : AL} {ν : Nat → Nat → Bool} {X : XM} {h : AH} (hT : TR g α ν X h) {s : Nat} (hs : ν 4 s = true) (hl : s < 17) {f : Nat} (hf : ν 16 f = true) {e : Int} (he : R31 e) {T : Int64} (hk : X 16 f 9 = 4) (h1 : 0 ≤ X 16 f 1 ∧ X 16 f 1 < 60) : Pr g M_X6_isTrue 1 [.ref (α 16 f), .ref (α 4 s), .int (J e), .long T] h (some (.int (J (bi (evF X (X 8 s) (tak X s) e f (lb T)))))) := by
  refine pr_of rfl rfl (ls := [some (.ref (α 16 f)), some (.ref (α 4 s)), some (.int (J e)), some (.long T), none]) rfl (Nat.le_of_ble_eq_true rfl) ?_
  show Ev g M_X6_isTrue 1 0 [some (.ref (α 16 f)), some (.ref (α 4 s)), some (.int (J e)), some (.long T), none] [] h 0 0 (PQ (some (.int (J (bi (evF X (X 8 s) (tak X s) e f (lb T)))))) h)
  refine ev_ald0 1 dX6_isTrue_0 rfl ?_
  refine ev_getfield 4 8 1 fl_X6_7_8 (fc_4 hT hf hk) rfl dX6_isTrue_1 rfl ?_
  refine ev_lld3 5 dX6_isTrue_4 rfl ?_
  refine tc_SN2 8 dX6_isTrue_5 lkn_X6_13 st_X11_isMet rfl (by first | decide | omega) (Nat.le_of_ble_eq_true rfl) (isMet_n (by omega)) ?_
  refine tb_if_ne 15 11 dX6_isTrue_8 (by decide) rfl (fun c8 => ?_) (fun c8 => ?_)
  · skip
    refine tj_iconst 16 dX6_isTrue_15 rfl ?_
    exact tz_ret (by first | rfl | omega | exact bi_dt (by omega) | exact bi_df (by omega) | (rw [evF, if_neg (by omega), if_neg (by omega), if_neg (by omega), if_neg (by omega), c8]; rfl)) rfl dX6_isTrue_16
  · skip
    refine tj_iconst 12 dX6_isTrue_11 rfl ?_
    refine ev_goto 16 dX6_isTrue_12 (by decide) ?_
    exact tz_ret (by first | rfl | omega | exact bi_dt (by omega) | exact bi_df (by omega) | (rw [evF, if_neg (by omega), if_neg (by omega), if_neg (by omega), if_neg (by omega), c8]; rfl)) rfl dX6_isTrue_16
