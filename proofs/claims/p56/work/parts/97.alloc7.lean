/-! A LIST TAKES ONE MORE: over cells -/
theorem cst_J8_200 : Cond.constant RJ8 200 2147483639 ∈ lw_tbl := List.mem_of_getElem? (i := 615) (by decide +kernel)
theorem cas_Course : Cond.castable "Prereqs$Course" "java/lang/Object" ∈ lw_tbl := List.mem_of_getElem? (i := 1149) (by decide +kernel)
theorem cas_Rule : Cond.castable "java/lang/String" "java/lang/Object" ∈ lw_tbl := List.mem_of_getElem? (i := 1161) (by decide +kernel)
theorem cas_MarkFormula : Cond.castable "Prereqs$MarkFormula" "java/lang/Object" ∈ lw_tbl := List.mem_of_getElem? (i := 1151) (by decide +kernel)
theorem cas_TogetherFormula : Cond.castable "Prereqs$TogetherFormula" "java/lang/Object" ∈ lw_tbl := List.mem_of_getElem? (i := 1152) (by decide +kernel)
theorem cas_CreditsFormula : Cond.castable "Prereqs$CreditsFormula" "java/lang/Object" ∈ lw_tbl := List.mem_of_getElem? (i := 1153) (by decide +kernel)
theorem cas_CountFormula : Cond.castable "Prereqs$CountFormula" "java/lang/Object" ∈ lw_tbl := List.mem_of_getElem? (i := 1155) (by decide +kernel)
theorem cas_NoneFormula : Cond.castable "Prereqs$NoneFormula" "java/lang/Object" ∈ lw_tbl := List.mem_of_getElem? (i := 1156) (by decide +kernel)
abbrev ob (n : Nat) (F : Nat → Option Nat) : AC := .inl (3, n, .inr (.inr (.inr (.inr F))))
abbrev ls2 (m : Int32) (e : Nat) (s : Int) : AC := .inr (2, [.int m, .ref e, .int (J s)])
section AL7
variable {g : Gt} {M M2 : Mt} {d d1 pc : Nat} {ls : List (Option Value)} {st st0 : List Value} {h h' h1 : AH} {mc ms mc1 ms1 : Nat} {Q Q1 : RT → AH → Prop} {a b e n0 n1 : Nat} {F F1 : Nat → Option Nat} {m : Int32}
theorem ev_ldcI {index : Nat} (v : Int) (n : Nat) (hd : decode (mC M) pc = .ok (.ldc index, 2)) (w : Int32) (hl : Cond.constant (mY M).cls index w ∈ lw_tbl) (hw : w = J v) (hn : pc + 2 = n) (kk : Ev g M d n ls (.int (J v) :: st) h mc ms Q) : Ev g M d pc ls st h mc ms Q := by
  subst hn
  subst hw
  intro p e s m args below meth c H locs cells slots lsA tc ts hM hS hL h1 h2
  exact lv_ldc hM.1 hM.2.1 hM.2.2.2.1 (AW.at hM.2.2.2.2.2.2.2.2 hl rfl) hd (kk p e s m args below meth c H locs cells slots lsA tc ts hM hS hL h1 h2)
/-- an object that an Object[] may hold -/
def OBJ (h : AH) (y : Nat) : Prop := ∃ ci vs C, h y = some (.inr (ci, vs)) ∧ vwCl[ci]?.map (·.1) = some C ∧ Cond.castable C "java/lang/Object" ∈ lw_tbl
theorem k_newLength {x y z : Int} (hx : 0 ≤ x ∧ x ≤ 1000) (hy : 1 ≤ y ∧ y ≤ 1000) (hz : 0 ≤ z ∧ z ≤ 1000) : Pr g M_J8_newLength_cabcc 1 [.int (J x), .int (J y), .int (J z)] h (some (.int (J (x + (if y < z then z else y))))) := by
  refine pr_of rfl rfl (ls := [some (.int (J x)), some (.int (J y)), some (.int (J z)), none]) rfl (Nat.le_of_ble_eq_true rfl) ?_
  refine ev_ild0 1 dJ8_newLength_cabcc_0 rfl ?_
  refine ev_ild1 2 dJ8_newLength_cabcc_1 rfl ?_
  refine ev_ild2 3 dJ8_newLength_cabcc_2 rfl ?_
  refine tj_mmax 6 dJ8_newLength_cabcc_3 mmax_J8_194 (by decide) (Nat.le_of_ble_eq_true rfl) rfl ⟨by omega, by omega⟩ ⟨by omega, by omega⟩ ?_
  have hw : 1 ≤ (if y < z then z else y) ∧ (if y < z then z else y) ≤ 1000 := by by_cases c : y < z <;> simp only [c, if_true, if_false] <;> omega
  generalize (if y < z then z else y) = w at hw ⊢
  refine tj_iadd 7 dJ8_newLength_cabcc_6 rfl ?_
  refine ev_ist3 8 dJ8_newLength_cabcc_7 rfl (by decide) rfl ?_
  refine tj_iconst 9 dJ8_newLength_cabcc_8 rfl ?_
  refine ev_ild3 10 dJ8_newLength_cabcc_9 rfl ?_
  refine tj_icmp_ge 21 13 dJ8_newLength_cabcc_10 (by decide) rfl ⟨by omega, by omega⟩ ⟨by omega, by omega⟩ (fun c => by omega) (fun c => ?_)
  refine ev_ild3 14 dJ8_newLength_cabcc_13 rfl ?_
  refine ev_ldcI 2147483639 16 dJ8_newLength_cabcc_14 2147483639 cst_J8_200 (by decide) rfl ?_
  refine tj_icmp_gt 21 19 dJ8_newLength_cabcc_16 (by decide) rfl ⟨by omega, by omega⟩ ⟨by omega, by omega⟩ (fun c => by omega) (fun c => ?_)
  refine ev_ild3 20 dJ8_newLength_cabcc_19 rfl ?_
  exact ev_ireturn (pq_i rfl) rfl dJ8_newLength_cabcc_20
def CQ (g : Gt) (h : AH) (n0 n1 : Nat) (F : Nat → Option Nat) : RT → AH → Prop := fun r h' => ∃ q, r = .inl (some (.ref q)) ∧ h q = none ∧ gB g ≤ q ∧ h' = hup h q (ob n1 (fun j => if j < n0 then F j else none))
theorem k_copyOf3 (ha : h a = some (ob n0 F)) (hb : gB g ≤ a) (hn : n0 ≤ n1) (hn1 : n1 ≤ 100) (hel : ∀ j y, j < n0 → F j = some y → OBJ h y) : Ct g M_J7_copyOf_6403c 4 [.ref a, .int (J (n1 : Int)), .ref (gM g)] h 1 100 (CQ g h n0 n1 F) := by
  refine ct_of_ev rfl rfl (ls := [some (.ref a), some (.int (J (n1 : Int))), some (.ref (gM g)), none]) rfl (Nat.le_of_ble_eq_true rfl) ?_
  refine ev_ald2 1 dJ7_copyOf_6403c_0 rfl ?_
  refine ev_ldcM 3 dJ7_copyOf_6403c_1 cl_J7_110 rfl ?_
  refine ev_acmp_ne (rx := some _) (ry := some _) 13 6 dJ7_copyOf_6403c_3 (by decide) rfl (fun c => absurd rfl c) (fun c => ?_)
  refine ev_ild1 7 dJ7_copyOf_6403c_6 rfl ?_
  refine ev_mono (mc := 0 + 1) (ms := 0 + n1) (by omega) (by omega) ?_
  refine ev_newobjs 10 dJ7_copyOf_6403c_7 cl_J7_2 (by rw [J_lt0 ⟨by omega, by omega⟩]; omega) (J_clampN (by omega)) (by omega) rfl (fun q hq hgq => ?_)
  refine ev_goto 24 dJ7_copyOf_6403c_10 (by decide) ?_
  refine ev_ast3 25 dJ7_copyOf_6403c_24 rfl (by decide) rfl ?_
  have haq : a ≠ q := fun z => by rw [z, hq] at ha; cases ha
  have ha1 : hup h q (ob n1 (fun _ => none)) a = some (ob n0 F) := by rw [hup_ne haq]; exact ha
  refine ev_ald0 26 dJ7_copyOf_6403c_25 rfl ?_
  refine tj_iconst 27 dJ7_copyOf_6403c_26 rfl ?_
  refine ev_ald3 28 dJ7_copyOf_6403c_27 rfl ?_
  refine tj_iconst 29 dJ7_copyOf_6403c_28 rfl ?_
  refine ev_ald0 30 dJ7_copyOf_6403c_29 rfl ?_
  refine ev_alen 31 ha1 rfl dJ7_copyOf_6403c_30 rfl ?_
  refine ev_ild1 32 dJ7_copyOf_6403c_31 rfl ?_
  refine ev_mmin 35 dJ7_copyOf_6403c_32 mmin_J7_304 mmin_w (by decide) (Nat.le_of_ble_eq_true rfl) rfl ?_
  have e0 : Int32.ofNat n0 = J (n0 : Int) := J_nI n0
  have e1 : (if J (n1 : Int) < Int32.ofNat n0 then J (n1 : Int) else Int32.ofNat n0) = J (n0 : Int) := by
    rw [e0, if_neg (by rw [J_lt ⟨by omega, by omega⟩ ⟨by omega, by omega⟩]; omega)]
  show Ev g _ 4 35 _ (.int (if J (n1 : Int) < Int32.ofNat n0 then J (n1 : Int) else Int32.ofNat n0) :: _) _ 0 0 _
  rw [e1]
  have z0 : (J 0).toNatClampNeg = 0 := by decide
  have zn : (J (n0 : Int)).toNatClampNeg = n0 := J_clampN (by omega)
  refine ev_copyO 38 dJ7_copyOf_6403c_35 acl_J7_150 acw ha1 (hup_eq _ _ _) hb hgq (by decide) (by decide) (by rw [J_lt0 ⟨by omega, by omega⟩]; omega) (by rw [z0, zn]; omega) (by rw [z0, zn]; omega) (fun i hi y hy => ?_) (by decide) (Nat.le_of_ble_eq_true rfl) rfl ?_
  · rw [zn] at hi
    rw [z0, Nat.zero_add] at hy
    obtain ⟨ci, vs, C, f1, f2, f3⟩ := hel i y hi hy
    exact ⟨ci, vs, C, by rw [hup_ne (fun z => by rw [z, hq] at f1; cases f1)]; exact f1, f2, f3⟩
  · refine ev_ald3 39 dJ7_copyOf_6403c_38 rfl ?_
    refine ev_areturnA ⟨q, rfl, hq, hgq, ?_⟩ rfl dJ7_copyOf_6403c_39
    rw [hup_up, z0, zn]
    refine congrArg (hup h q) (congrArg (fun f => (Sum.inl (3, n1, .inr (.inr (.inr (.inr f)))) : AC)) (funext fun j => ?_))
    unfold va_cpy
    by_cases c : j < n0
    · rw [if_pos ⟨by omega, by omega⟩, if_pos c, Nat.zero_add, Nat.sub_zero]
    · rw [if_neg (by omega), if_neg c]
theorem k_copyOf2 (ha : h a = some (ob n0 F)) (hb : gB g ≤ a) (hn : n0 ≤ n1) (hn1 : n1 ≤ 100) (hel : ∀ j y, j < n0 → F j = some y → OBJ h y) : Ct g M_J7_copyOf_1904c 5 [.ref a, .int (J (n1 : Int))] h 1 100 (CQ g h n0 n1 F) := by
  refine ct_of_ev rfl rfl (ls := [some (.ref a), some (.int (J (n1 : Int)))]) rfl (Nat.le_of_ble_eq_true rfl) ?_
  refine ev_ald0 1 dJ7_copyOf_1904c_0 rfl ?_
  refine ev_ild1 2 dJ7_copyOf_1904c_1 rfl ?_
  refine ev_ald0 3 dJ7_copyOf_1904c_2 rfl ?_
  refine ev_getC 6 dJ7_copyOf_1904c_3 gcl_J7_86 ha (by decide) (Nat.le_of_ble_eq_true rfl) rfl ?_
  refine ev_mono (mc := 1 + 0) (ms := 100 + 0) (by omega) (by omega) ?_
  refine ev_callS (As := [.ref a, .int (J (n1 : Int)), .ref (gM g)]) (st := []) 9 lks_J7_300 (k_copyOf3 ha hb hn hn1 hel) (by decide) rfl rfl (Nat.le_of_ble_eq_true rfl) dJ7_copyOf_1904c_6 rfl (fun v h' hq => ?_) (fun E h' hq => by obtain ⟨q, e, -⟩ := hq; cases e)
  obtain ⟨q, e, hq2⟩ := hq
  cases e
  exact ev_areturnA ⟨q, rfl, hq2⟩ rfl dJ7_copyOf_1904c_9
/-- it grows: a new array stands in the list -/
def GQ (g : Gt) (h : AH) (b : Nat) (m : Int32) (s : Int) (n0 : Nat) (F : Nat → Option Nat) : RT → AH → Prop := fun r h' => ∃ q n1, r = .inl (some (.ref q)) ∧ h q = none ∧ gB g ≤ q ∧ n0 + 1 ≤ n1 ∧ n1 ≤ 100 ∧ h' = hup (hup h q (ob n1 (fun j => if j < n0 then F j else none))) b (ls2 m q s)
theorem k_growE {s : Int} (hl : h b = some (ls2 m (gE g) s)) (hb : gB g ≤ b) : Ct g M_Jx4a65c_grow_92f84 6 [.ref b, .int (J 1)] h 1 100 (GQ g h b m s 0 F) := by
  refine ct_of_ev rfl rfl (ls := [some (.ref b), some (.int (J 1)), none, none]) rfl (Nat.le_of_ble_eq_true rfl) ?_
  refine ev_ald0 1 dJx4a65c_grow_92f84_0 rfl ?_
  refine ev_getfield 4 2 1 fl_Jx4a65c_9_2 hl rfl dJx4a65c_grow_92f84_1 rfl ?_
  refine ev_alenEm 5 dJx4a65c_grow_92f84_4 rfl ?_
  refine ev_ist2 6 dJx4a65c_grow_92f84_5 rfl (by decide) rfl ?_
  refine ev_ild2 7 dJx4a65c_grow_92f84_6 rfl ?_
  refine ev_if_gt 20 10 dJx4a65c_grow_92f84_7 (by decide) rfl (fun c => absurd c (by decide)) (fun c => ?_)
  refine ev_ald0 11 dJx4a65c_grow_92f84_10 rfl ?_
  refine ev_getfield 14 2 1 fl_Jx4a65c_9_2 hl rfl dJx4a65c_grow_92f84_11 rfl ?_
  refine ev_getEm 17 dJx4a65c_grow_92f84_14 em_Jx4a65c_39 rfl ?_
  refine ev_acmp_eq (rx := some _) (ry := some _) 45 20 dJx4a65c_grow_92f84_17 (by decide) rfl (fun c => ?_) (fun c => absurd rfl c)
  refine ev_ald0 46 dJx4a65c_grow_92f84_45 rfl ?_
  refine tj_bipush 48 dJx4a65c_grow_92f84_46 (by decide) rfl ?_
  refine ev_ild1 49 dJx4a65c_grow_92f84_48 rfl ?_
  refine tj_mmax 52 dJx4a65c_grow_92f84_49 mmax_Jx4a65c_79 (by decide) (Nat.le_of_ble_eq_true rfl) rfl ⟨by omega, by omega⟩ ⟨by omega, by omega⟩ ?_
  refine ev_mono (mc := 0 + 1) (ms := 90 + 10) (by omega) (by omega) ?_
  refine ev_newobjs (N' := 10) 55 dJx4a65c_grow_92f84_52 cl_Jx4a65c_7 (by decide) (by decide) (by omega) rfl (fun q hq hgq => ?_)
  have hbq : b ≠ q := fun z => by rw [z, hq] at hl; cases hl
  refine ev_dup_x1 56 dJx4a65c_grow_92f84_55 rfl rfl rfl ?_
  refine ev_putfield 59 2 1 (.array (.object "java/lang/Object")) fl_Jx4a65c_9_2 fp_2_1 (h := hup h q (ob 10 (fun _ => none))) (by rw [hup_ne hbq]; exact hl) hb rfl rfl (Nat.le_of_ble_eq_true rfl) dJx4a65c_grow_92f84_56 rfl ?_
  exact ev_areturnA ⟨q, 10, rfl, hq, hgq, by omega, by omega, rfl⟩ rfl dJx4a65c_grow_92f84_59
theorem k_growF {s : Int} (hl : h b = some (ls2 m a s)) (hb : gB g ≤ b) (ha : h a = some (ob n0 F)) (hga : gB g ≤ a) (h1 : 1 ≤ n0) (h60 : n0 ≤ 60) (hel : ∀ j y, j < n0 → F j = some y → OBJ h y) : Ct g M_Jx4a65c_grow_92f84 6 [.ref b, .int (J ((n0 : Int) + 1))] h 1 100 (GQ g h b m s n0 F) := by
  refine ct_of_ev rfl rfl (ls := [some (.ref b), some (.int (J ((n0 : Int) + 1))), none, none]) rfl (Nat.le_of_ble_eq_true rfl) ?_
  refine ev_ald0 1 dJx4a65c_grow_92f84_0 rfl ?_
  refine ev_getfield 4 2 1 fl_Jx4a65c_9_2 hl rfl dJx4a65c_grow_92f84_1 rfl ?_
  refine ev_alen 5 ha rfl dJx4a65c_grow_92f84_4 rfl ?_
  have e0 : Int32.ofNat n0 = J (n0 : Int) := J_nI n0
  show Ev g _ 6 5 _ (.int (Int32.ofNat n0) :: _) _ 1 100 _
  rw [e0]
  refine ev_ist2 6 dJx4a65c_grow_92f84_5 rfl (by decide) rfl ?_
  refine ev_ild2 7 dJx4a65c_grow_92f84_6 rfl ?_
  refine tj_if_gt 20 10 dJx4a65c_grow_92f84_7 (by decide) rfl ⟨by omega, by omega⟩ (fun c => ?_) (fun c => by omega)
  refine ev_ild2 21 dJx4a65c_grow_92f84_20 rfl ?_
  refine ev_ild1 22 dJx4a65c_grow_92f84_21 rfl ?_
  refine ev_ild2 23 dJx4a65c_grow_92f84_22 rfl ?_
  refine tj_isub 24 dJx4a65c_grow_92f84_23 rfl ?_
  refine ev_ild2 25 dJx4a65c_grow_92f84_24 rfl ?_
  refine tj_iconst 26 dJx4a65c_grow_92f84_25 rfl ?_
  refine tj_ishr 27 dJx4a65c_grow_92f84_26 n0 1 rfl rfl (by omega) (by omega) rfl ?_
  have hs : n0 >>> 1 = n0 / 2 := by rw [Nat.shiftRight_eq_div_pow]
  rw [hs]
  refine tc_S3 30 dJx4a65c_grow_92f84_27 lks_Jx4a65c_73 rfl (by decide) (Nat.le_of_ble_eq_true rfl) (k_newLength ⟨by omega, by omega⟩ ⟨by omega, by omega⟩ ⟨by omega, by omega⟩) ?_
  obtain ⟨n1, hn1, hlo, hhi⟩ : ∃ n1 : Nat, (n0 : Int) + (if (n0 : Int) + 1 - n0 < ((n0 / 2 : Nat) : Int) then ((n0 / 2 : Nat) : Int) else (n0 : Int) + 1 - n0) = n1 ∧ n0 + 1 ≤ n1 ∧ n1 ≤ 100 := by
    by_cases c2 : (n0 : Int) + 1 - n0 < ((n0 / 2 : Nat) : Int)
    · exact ⟨n0 + n0 / 2, by rw [if_pos c2]; omega, by omega, by omega⟩
    · exact ⟨n0 + 1, by rw [if_neg c2]; omega, by omega, by omega⟩
  rw [hn1]
  refine ev_ist3 31 dJx4a65c_grow_92f84_30 rfl (by decide) rfl ?_
  refine ev_ald0 32 dJx4a65c_grow_92f84_31 rfl ?_
  refine ev_ald0 33 dJx4a65c_grow_92f84_32 rfl ?_
  refine ev_getfield 36 2 1 fl_Jx4a65c_9_2 hl rfl dJx4a65c_grow_92f84_33 rfl ?_
  refine ev_ild3 37 dJx4a65c_grow_92f84_36 rfl ?_
  refine ev_mono (mc := 1 + 0) (ms := 100 + 0) (by omega) (by omega) ?_
  refine ev_callS (As := [.ref a, .int (J (n1 : Int))]) (st := [.ref b]) 40 lks_Jx4a65c_66 (k_copyOf2 ha hga (show n0 ≤ n1 by omega) hhi hel) (by decide) rfl rfl (Nat.le_of_ble_eq_true rfl) dJx4a65c_grow_92f84_37 rfl (fun v h' hq => ?_) (fun E h' hq => by obtain ⟨q, e, -⟩ := hq; cases e)
  obtain ⟨q, e, hq, hgq, rfl⟩ := hq
  cases e
  have hbq : b ≠ q := fun z => by rw [z, hq] at hl; cases hl
  refine ev_dup_x1 41 dJx4a65c_grow_92f84_40 rfl rfl rfl ?_
  refine ev_putfield 44 2 1 (.array (.object "java/lang/Object")) fl_Jx4a65c_9_2 fp_2_1 (h := hup h q (ob n1 (fun j => if j < n0 then F j else none))) (by rw [hup_ne hbq]; exact hl) hb rfl rfl (Nat.le_of_ble_eq_true rfl) dJx4a65c_grow_92f84_41 rfl ?_
  exact ev_areturnA ⟨q, n1, rfl, hq, hgq, hlo, hhi, rfl⟩ rfl dJx4a65c_grow_92f84_44
theorem k_grow0 {s : Int} {e : Nat} (hl : h b = some (ls2 m e s)) (hc : Ct g M_Jx4a65c_grow_92f84 6 [.ref b, .int (J (s + 1))] h 1 100 (GQ g h b m s n0 F)) : Ct g M_Jx4a65c_grow_d5877 7 [.ref b] h 1 100 (GQ g h b m s n0 F) := by
  refine ct_of_ev rfl rfl (ls := [some (.ref b)]) rfl (Nat.le_of_ble_eq_true rfl) ?_
  refine ev_ald0 1 dJx4a65c_grow_d5877_0 rfl ?_
  refine ev_ald0 2 dJx4a65c_grow_d5877_1 rfl ?_
  refine ev_getfield 5 2 2 fl_Jx4a65c_48_2 hl rfl dJx4a65c_grow_d5877_2 rfl ?_
  refine tj_iconst 6 dJx4a65c_grow_d5877_5 rfl ?_
  refine tj_iadd 7 dJx4a65c_grow_d5877_6 rfl ?_
  refine ev_mono (mc := 1 + 0) (ms := 100 + 0) (by omega) (by omega) ?_
  refine ev_callV (As := [.int (J (s + 1))]) (st := []) 10 2 lkv_Jx4a65c_69 hc (by decide) hl rfl rfl rfl (Nat.le_of_ble_eq_true rfl) dJx4a65c_grow_d5877_7 rfl (fun v h' hq => ?_) (fun E h' hq => by obtain ⟨q, n1, e, -⟩ := hq; cases e)
  obtain ⟨q, n1, e, hq2⟩ := hq
  cases e
  exact ev_areturnA ⟨q, n1, rfl, hq2⟩ rfl dJx4a65c_grow_d5877_10
/-- the element is set, the size goes up -/
theorem k_add3t {s : Nat} {q : Nat} (hl : h b = some (ls2 m q s)) (hb : gB g ≤ b) (hq : h q = some (ob n1 F)) (hgq : gB g ≤ q) (hs : s < n1) (hn : n1 ≤ 1000) (ho : OBJ h e) (hQ : Q (.inl none) (hup (hup h q (ob n1 (va_up F s (some e)))) b (ls2 m q ((s : Int) + 1)))) : Ev g M_Jx4a65c_add_72be8 8 11 [some (.ref b), some (.ref e), some (.ref q), some (.int (J (s : Int)))] [] h mc ms Q := by
  refine ev_ald2 12 dJx4a65c_add_72be8_11 rfl ?_
  refine ev_ild3 13 dJx4a65c_add_72be8_12 rfl ?_
  refine ev_ald1 14 dJx4a65c_add_72be8_13 rfl ?_
  obtain ⟨ci, vs, C, f1, f2, f3⟩ := ho
  refine ev_aastoreO 15 dJx4a65c_add_72be8_14 hq hgq f1 f2 f3 (J_in hs (by omega)) rfl ?_
  rw [J_clampN (by omega)]
  have hbq : b ≠ q := fun z => by rw [z, hq] at hl; cases hl
  refine ev_ald0 16 dJx4a65c_add_72be8_15 rfl ?_
  refine ev_ild3 17 dJx4a65c_add_72be8_16 rfl ?_
  refine tj_iconst 18 dJx4a65c_add_72be8_17 rfl ?_
  refine tj_iadd 19 dJx4a65c_add_72be8_18 rfl ?_
  refine ev_putfield 22 2 2 .int fl_Jx4a65c_48_2 fp_2_2 (h := hup h q (ob n1 (va_up F s (some e)))) (by rw [hup_ne hbq]; exact hl) hb rfl rfl (Nat.le_of_ble_eq_true rfl) dJx4a65c_add_72be8_19 rfl ?_
  exact ev_vreturn hQ rfl dJx4a65c_add_72be8_22
theorem k_add3N {s : Nat} {q : Nat} (hl : h b = some (ls2 m q s)) (hb : gB g ≤ b) (hq : h q = some (ob n1 F)) (hgq : gB g ≤ q) (hs : s < n1) (hn : n1 ≤ 1000) (ho : OBJ h e) : Ct g M_Jx4a65c_add_72be8 8 [.ref b, .ref e, .ref q, .int (J (s : Int))] h 1 100 (NQ (fun h' => h' = hup (hup h q (ob n1 (va_up F s (some e)))) b (ls2 m q ((s : Int) + 1)))) := by
  refine ct_of_ev rfl rfl (ls := [some (.ref b), some (.ref e), some (.ref q), some (.int (J (s : Int)))]) rfl (Nat.le_of_ble_eq_true rfl) ?_
  refine ev_ild3 1 dJx4a65c_add_72be8_0 rfl ?_
  refine ev_ald2 2 dJx4a65c_add_72be8_1 rfl ?_
  refine ev_alen 3 hq rfl dJx4a65c_add_72be8_2 rfl ?_
  have e0 : Int32.ofNat n1 = J (n1 : Int) := J_nI n1
  show Ev g _ 8 3 _ (.int (Int32.ofNat n1) :: _) _ 1 100 _
  rw [e0]
  refine tj_icmp_ne 11 6 dJx4a65c_add_72be8_3 (by decide) rfl ⟨by omega, by omega⟩ ⟨by omega, by omega⟩ (fun c => ?_) (fun c => by omega)
  exact k_add3t hl hb hq hgq hs hn ho ⟨rfl, rfl⟩
/-- from a grown array on -/
theorem k_add3g {s : Nat} {x : Nat} (hl : h b = some (ls2 m x s)) (hb : gB g ≤ b) (hc : Ct g M_Jx4a65c_grow_92f84 6 [.ref b, .int (J ((s : Int) + 1))] h 1 100 (GQ g h b m s s F)) (ho : OBJ h e) : Ev g M_Jx4a65c_add_72be8 8 6 [some (.ref b), some (.ref e), some (.ref x), some (.int (J (s : Int)))] [] h 1 100 (NQ (fun h' => ∃ q n1, h q = none ∧ gB g ≤ q ∧ s + 1 ≤ n1 ∧ n1 ≤ 100 ∧ h' = hup (hup h q (ob n1 (va_up (fun j => if j < s then F j else none) s (some e)))) b (ls2 m q ((s : Int) + 1)))) := by
  refine ev_ald0 7 dJx4a65c_add_72be8_6 rfl ?_
  refine ev_mono (mc := 1 + 0) (ms := 100 + 0) (by omega) (by omega) ?_
  refine ev_callV (As := []) (st := []) 10 2 lkv_Jx4a65c_129 (k_grow0 hl hc) (by decide) hl rfl rfl rfl (Nat.le_of_ble_eq_true rfl) dJx4a65c_add_72be8_7 rfl (fun v h' hq => ?_) (fun E h' hq => by obtain ⟨q, n1, e, -⟩ := hq; cases e)
  obtain ⟨q, n1, e1, hq, hgq, g1, g2, rfl⟩ := hq
  cases e1
  have hbq : b ≠ q := fun z => by rw [z, hq] at hl; cases hl
  obtain ⟨ci, vs, C, f1, f2, f3⟩ := ho
  have heq : e ≠ q := fun z => by rw [z, hq] at f1; cases f1
  have hO : OBJ (hup (hup h q (ob n1 (fun j => if j < s then F j else none))) b (ls2 m q s)) e := by
    by_cases c : e = b
    · subst c
      rw [hl] at f1
      cases f1
      exact ⟨2, _, C, hup_eq _ _ _, f2, f3⟩
    · exact ⟨ci, vs, C, by rw [hup_ne c, hup_ne heq]; exact f1, f2, f3⟩
  refine ev_ast2 11 dJx4a65c_add_72be8_10 rfl (by decide) rfl ?_
  refine k_add3t (g := g) (m := m) (e := e) (s := s) (n1 := n1) (hup_eq (hup h q (ob n1 (fun j => if j < s then F j else none))) b (ls2 m q s)) hb (by rw [hup_ne (fun z => hbq z.symm), hup_eq]) hgq (by omega) (by omega) hO ⟨rfl, q, n1, hq, hgq, g1, g2, ?_⟩
  funext x
  unfold hup
  by_cases c1 : x = b
  · rw [if_pos c1, if_pos c1]
  · rw [if_neg c1, if_neg c1]
    by_cases c2 : x = q
    · rw [if_pos c2, if_pos c2, if_neg c1]
    · rw [if_neg c2, if_neg c2, if_neg c1, if_neg c2]
theorem k_add3E {x : Nat} (hx : x = gE g) (hl : h b = some (ls2 m x 0)) (hb : gB g ≤ b) (ho : OBJ h e) : Ct g M_Jx4a65c_add_72be8 8 [.ref b, .ref e, .ref x, .int (J ((0 : Nat) : Int))] h 1 100 (NQ (fun h' => ∃ q n1, h q = none ∧ gB g ≤ q ∧ 0 + 1 ≤ n1 ∧ n1 ≤ 100 ∧ h' = hup (hup h q (ob n1 (va_up (fun j => if j < 0 then F j else none) 0 (some e)))) b (ls2 m q (((0 : Nat) : Int) + 1)))) := by
  subst hx
  refine ct_of_ev rfl rfl (ls := [some (.ref b), some (.ref e), some (.ref (gE g)), some (.int (J ((0 : Nat) : Int)))]) rfl (Nat.le_of_ble_eq_true rfl) ?_
  refine ev_ild3 1 dJx4a65c_add_72be8_0 rfl ?_
  refine ev_ald2 2 dJx4a65c_add_72be8_1 rfl ?_
  refine ev_alenEm 3 dJx4a65c_add_72be8_2 rfl ?_
  refine ev_icmp_ne 11 6 dJx4a65c_add_72be8_3 (by decide) rfl (fun c => absurd (by decide) c) (fun c => ?_)
  exact k_add3g (s := 0) hl hb (k_growE hl hb) ho
theorem k_add3F {s : Nat} {q : Nat} (hl : h b = some (ls2 m q s)) (hb : gB g ≤ b) (hq : h q = some (ob s F)) (hgq : gB g ≤ q) (h1 : 1 ≤ s) (h60 : s ≤ 60) (hel : ∀ j y, j < s → F j = some y → OBJ h y) (ho : OBJ h e) : Ct g M_Jx4a65c_add_72be8 8 [.ref b, .ref e, .ref q, .int (J (s : Int))] h 1 100 (NQ (fun h' => ∃ q n1, h q = none ∧ gB g ≤ q ∧ s + 1 ≤ n1 ∧ n1 ≤ 100 ∧ h' = hup (hup h q (ob n1 (va_up (fun j => if j < s then F j else none) s (some e)))) b (ls2 m q ((s : Int) + 1)))) := by
  refine ct_of_ev rfl rfl (ls := [some (.ref b), some (.ref e), some (.ref q), some (.int (J (s : Int)))]) rfl (Nat.le_of_ble_eq_true rfl) ?_
  refine ev_ild3 1 dJx4a65c_add_72be8_0 rfl ?_
  refine ev_ald2 2 dJx4a65c_add_72be8_1 rfl ?_
  refine ev_alen 3 hq rfl dJx4a65c_add_72be8_2 rfl ?_
  have e0 : Int32.ofNat s = J (s : Int) := J_nI s
  show Ev g _ 8 3 _ (.int (Int32.ofNat s) :: _) _ 1 100 _
  rw [e0]
  refine tj_icmp_ne 11 6 dJx4a65c_add_72be8_3 (by decide) rfl ⟨by omega, by omega⟩ ⟨by omega, by omega⟩ (fun c => by omega) (fun c => ?_)
  exact k_add3g hl hb (k_growF hl hb hq hgq h1 h60 hel) ho
/-- add: the number of changes goes up first -/
theorem k_add {s : Nat} {x : Nat} {R : AH → Prop} (hl : h b = some (ls2 m x s)) (hb : gB g ≤ b) (hc : Ct g M_Jx4a65c_add_72be8 8 [.ref b, .ref e, .ref x, .int (J (s : Int))] (hup h b (ls2 (m + 1) x s)) 1 100 (NQ R)) : Ct g M_Jx4a65c_add_9ea2d 9 [.ref b, .ref e] h 1 100 (fun r h' => r = .inl (some (.int (J 1))) ∧ R h') := by
  refine ct_of_ev rfl rfl (ls := [some (.ref b), some (.ref e)]) rfl (Nat.le_of_ble_eq_true rfl) ?_
  refine ev_ald0 1 dJx4a65c_add_9ea2d_0 rfl ?_
  refine ev_dup 2 dJx4a65c_add_9ea2d_1 rfl rfl ?_
  refine ev_getfieldS 5 2 0 fls_Jx4a65c_63_2 hl rfl dJx4a65c_add_9ea2d_2 rfl ?_
  refine ev_iconst 1 6 dJx4a65c_add_9ea2d_5 (by decide) rfl ?_
  refine ev_iadd 7 dJx4a65c_add_9ea2d_6 rfl ?_
  refine ev_putfieldS 10 2 0 .int fls_Jx4a65c_63_2 fp_2_0 hl hb rfl rfl (Nat.le_of_ble_eq_true rfl) dJx4a65c_add_9ea2d_7 rfl ?_
  have hl1 : hup h b (ls2 (m + 1) x s) b = some (ls2 (m + 1) x s) := hup_eq _ _ _
  refine ev_ald0 11 dJx4a65c_add_9ea2d_10 rfl ?_
  refine ev_ald1 12 dJx4a65c_add_9ea2d_11 rfl ?_
  refine ev_ald0 13 dJx4a65c_add_9ea2d_12 rfl ?_
  refine ev_getfield 16 2 1 fl_Jx4a65c_9_2 hl1 rfl dJx4a65c_add_9ea2d_13 rfl ?_
  refine ev_ald0 17 dJx4a65c_add_9ea2d_16 rfl ?_
  refine ev_getfield 20 2 2 fl_Jx4a65c_48_2 hl1 rfl dJx4a65c_add_9ea2d_17 rfl ?_
  refine ev_mono (mc := 1 + 0) (ms := 100 + 0) (by omega) (by omega) ?_
  refine ev_callV (As := [.ref e, .ref x, .int (J (s : Int))]) (st := []) 23 2 lkv_Jx4a65c_131 hc (by decide) hl1 rfl rfl rfl (Nat.le_of_ble_eq_true rfl) dJx4a65c_add_9ea2d_20 rfl (fun v h' hq => ?_) (fun E h' hq => nomatch hq.1)
  obtain ⟨e1, hq⟩ := hq
  cases e1
  refine tj_iconst 24 dJx4a65c_add_9ea2d_23 rfl ?_
  exact ev_zreturn ⟨rfl, hq⟩ rfl (by decide) dJx4a65c_add_9ea2d_24
end AL7
