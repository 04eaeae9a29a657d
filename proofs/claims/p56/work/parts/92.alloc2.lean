/-! THE CONSTRUCTORS -/
theorem awint : Cond.arrayClass .int ∈ lw_tbl := List.mem_of_getElem? (i := 151) (by decide +kernel)
theorem awboolean : Cond.arrayClass .boolean ∈ lw_tbl := List.mem_of_getElem? (i := 152) (by decide +kernel)
theorem awchar : Cond.arrayClass .char ∈ lw_tbl := List.mem_of_getElem? (i := 202) (by decide +kernel)
theorem oi_X11_3 : Cond.methodLink RX11 3 Lib.objectInit ∈ lw_tbl := List.mem_of_getElem? (i := 78) (by decide +kernel)
theorem oi_Jxa1e45_1 : Cond.methodLink RJxa1e45 1 Lib.objectInit ∈ lw_tbl := List.mem_of_getElem? (i := 92) (by decide +kernel)
theorem oi_X8_3 : Cond.methodLink RX8 3 Lib.objectInit ∈ lw_tbl := List.mem_of_getElem? (i := 112) (by decide +kernel)
theorem oi_X0_5 : Cond.methodLink RX0 5 Lib.objectInit ∈ lw_tbl := List.mem_of_getElem? (i := 158) (by decide +kernel)
theorem oi_X10_3 : Cond.methodLink RX10 3 Lib.objectInit ∈ lw_tbl := List.mem_of_getElem? (i := 195) (by decide +kernel)
theorem oi_X12_1 : Cond.methodLink RX12 1 Lib.objectInit ∈ lw_tbl := List.mem_of_getElem? (i := 430) (by decide +kernel)
theorem oi_X2_3 : Cond.methodLink RX2 3 Lib.objectInit ∈ lw_tbl := List.mem_of_getElem? (i := 567) (by decide +kernel)
theorem oi_X4_3 : Cond.methodLink RX4 3 Lib.objectInit ∈ lw_tbl := List.mem_of_getElem? (i := 711) (by decide +kernel)
theorem oi_w : Cond.instanceMethod Lib.objectInit ∈ lw_tbl ∧ Cond.code Lib.objectInit ⟨#[0xb1]⟩ 1 none ∈ lw_tbl := ⟨List.mem_of_getElem? (i := 79) (by decide +kernel), List.mem_of_getElem? (i := 80) (by decide +kernel)⟩
theorem em_Jx4a65c_39 : Cond.fieldLink RJx4a65c 39 "java/util/ArrayList" "DEFAULTCAPACITY_EMPTY_ELEMENTDATA" "[Ljava/lang/Object;" ∈ lw_tbl := List.mem_of_getElem? (i := 93) (by decide +kernel)
section AL2
variable {g : Gt} {M M2 : Mt} {d d1 pc : Nat} {ls : List (Option Value)} {st st0 : List Value} {h hc h' : AH} {mc ms mc1 ms1 : Nat} {Q Q1 : RT → AH → Prop} {q : Nat} {c c2 : AC} {L L2 Z : List (Nat × AC)} {P : AH → Prop}
def NQ (P : AH → Prop) : RT → AH → Prop := fun r h' => r = .inl none ∧ P h'
theorem cn_of_ev {av : List Value} (hp : plainName (mY M).cls = true) (hh : mH M = []) (hls : entL (mL M) av = ls) (hlen : (lg_sl av).length ≤ mL M) (k : Ev g M d 0 ls [] h mc ms (NQ P)) : Cn g M d av h mc ms (NQ P) := cn_of_ct (fun E h' z => nomatch z.1) (ct_of_ev hp hh hls hlen k)
theorem kv_init {index k a : Nat} {As : List Value} (n : Nat) (L : LKi (mY M).cls index M2 k) (hk2 : Cn g M2 d1 (.ref a :: As) hc mc1 ms1 (NQ P)) (hd1 : d1 < d) (hk : As.length = k) (hst : st0 = As.reverse ++ .ref a :: st) (hcat : (st.map fun v => v.category).sum ≤ 8) (hd : decode (mC M) pc = .ok (.invokespecial index, 3)) (hn : pc + 3 = n) (kk : ∀ h', P h' → Ev g M d n ls st h' mc ms Q) : Ev g M d pc ls st0 hc (mc1 + mc) (ms1 + ms) Q :=
  ev_callI n L hk2 hd1 hk hst hcat hd hn (fun v h' hq => by obtain ⟨e, hp⟩ := hq; cases e; exact kk h' hp) (fun E h' hq => nomatch hq.1)
theorem kv_initN {index k a : Nat} {host : String} {As : List Value} (n : Nat) (L : LKn (mY M).cls index M2 k host) (hin : Cond.instanceMethod (mY M2) ∈ lw_tbl ∧ (mY M2).name = "<init>" ∧ mR M2 = none) (hk2 : Cn g M2 d1 (.ref a :: As) hc mc1 ms1 (NQ P)) (hd1 : d1 < d) (hk : As.length = k) (hst : st0 = As.reverse ++ .ref a :: st) (hcat : (st.map fun v => v.category).sum ≤ 8) (hd : decode (mC M) pc = .ok (.invokespecial index, 3)) (hn : pc + 3 = n) (kk : ∀ h', P h' → Ev g M d n ls st h' mc ms Q) : Ev g M d pc ls st0 hc (mc1 + mc) (ms1 + ms) Q :=
  ev_callIN n L hin hk2 hd1 hk hst hcat hd hn (fun v h' hq => by obtain ⟨e, hp⟩ := hq; cases e; exact kk h' hp) (fun E h' hq => nomatch hq.1)
theorem KN.trq (K : KN g h hc q c L) (K2 : KN g hc h' q c2 []) : KN g h h' q c2 L :=
  ⟨⟨K2.1.1, K.1.2⟩, fun x c hx hn => K2.2.1 x c (K.2.1 x c hx hn) hn, fun p hp => ⟨K2.2.1 _ _ (K.2.2.1 p hp).1 (K.q_ne hp), (K.2.2.1 p hp).2⟩, K.2.2.2⟩
abbrev fi (N : Nat) (v : Int) : AC := .inl (0, N, .inl (fun j => if j < N then J v else 0))
abbrev zc (n : Nat) : AC := .inl (2, n, .inl (fun _ => 0))
theorem hup_up {a : Nat} {c1 c2 : AC} : hup (hup h a c1) a c2 = hup h a c2 := funext fun x => by
  unfold hup
  by_cases e : x = a
  · rw [if_pos e, if_pos e]
  · rw [if_neg e, if_neg e, if_neg e]
theorem fill_loop {a N : Nat} {v : Int} (hN : N < 2147483648) (hb : gB g ≤ a) : ∀ (n j : Nat) (h' : AH), N - j < n → j ≤ N → h' = hup h a (.inl (0, N, .inl (fun x => if x < j then J v else 0))) → Ev g M_J7_fill_53178 1 5 [some (.ref a), some (.int (J v)), some (.int (J (j : Int))), some (.int (J (N : Int)))] [] h' 0 0 (NQ (fun h' => h' = hup h a (fi N v)))
  | 0 => fun j h' hm => absurd hm (Nat.not_lt_zero _)
  | n + 1 => fun j h' hm hj hh => by
    refine ev_ild2 6 dJ7_fill_53178_5 rfl ?_
    refine ev_ild3 7 dJ7_fill_53178_6 rfl ?_
    refine tj_icmp_ge 20 10 dJ7_fill_53178_7 (by decide) rfl ⟨by omega, by omega⟩ ⟨by omega, by omega⟩ (fun c => ?_) (fun c => ?_)
    · have e : j = N := by omega
      subst e
      exact ev_vreturn ⟨rfl, hh⟩ rfl dJ7_fill_53178_20
    · have hjN : j < N := by omega
      have ha : h' a = some (.inl (0, N, .inl (fun x => if x < j then J v else 0))) := by rw [hh, hup_eq]
      refine ev_ald0 11 dJ7_fill_53178_10 rfl ?_
      refine ev_ild2 12 dJ7_fill_53178_11 rfl ?_
      refine ev_ild1 13 dJ7_fill_53178_12 rfl ?_
      refine ev_iastore 14 ha hb (J_in hjN hN) dJ7_fill_53178_13 rfl ?_
      refine tj_inc2 17 dJ7_fill_53178_14 rfl (by decide) rfl ?_
      refine ev_goto 5 dJ7_fill_53178_17 (by decide) ?_
      refine fill_loop hN hb n (j + 1) _ (by omega) (by omega) ?_
      rw [hh, hup_up, J_clampN (by omega)]
      refine congrArg (hup h a) (congrArg (fun f => (Sum.inl (0, N, Sum.inl f) : AC)) (funext fun x => ?_))
      unfold upd
      by_cases e1 : x = j
      · rw [if_pos e1, if_pos (by omega)]
      · rw [if_neg e1]
        show (if x < j then J v else 0) = _
        by_cases e2 : x < j
        · rw [if_pos e2, if_pos (by omega)]
        · rw [if_neg e2, if_neg (by omega)]
theorem k_fill {a N : Nat} {v : Int} (hN : N < 2147483648) (ha : h a = some (zi N)) (hb : gB g ≤ a) : Ct g M_J7_fill_53178 1 [.ref a, .int (J v)] h 0 0 (NQ (fun h' => h' = hup h a (fi N v))) := by
  refine ct_of_ev rfl rfl (ls := [some (.ref a), some (.int (J v)), none, none]) rfl (Nat.le_of_ble_eq_true rfl) ?_
  refine tj_iconst 1 dJ7_fill_53178_0 rfl ?_
  refine ev_ist2 2 dJ7_fill_53178_1 rfl (by decide) rfl ?_
  refine ev_ald0 3 dJ7_fill_53178_2 rfl ?_
  refine ev_alen 4 ha rfl dJ7_fill_53178_3 rfl ?_
  refine ev_ist3 5 dJ7_fill_53178_4 rfl (by decide) rfl ?_
  have e : Int32.ofNat N = J (N : Int) := J_nI N
  show Ev g M_J7_fill_53178 1 5 [some (.ref a), some (.int (J v)), some (.int (J 0)), some (.int (Int32.ofNat N))] [] h 0 0 _
  rw [e]
  refine fill_loop hN hb (N + 1) 0 h (by omega) (by omega) ?_
  refine funext fun x => ?_
  by_cases e : x = a
  · rw [e, hup_eq, ha]
    simp
  · rw [hup_ne e]
theorem kv_fill {index a i N : Nat} {v : Int} {L2 : List (Nat × AC)} (n : Nat) (Lk : LKs (mY M).cls index M_J7_fill_53178 2) (hd1 : 1 < d) (hd : decode (mC M) pc = .ok (.invokestatic index, 3)) (K : KN g h hc q c L) (hi : L[i]? = some (a, zi N)) (hL : L.set i (a, fi N v) = L2) (hN : N < 2147483648) (hn : pc + 3 = n) (kk : ∀ h', KN g h h' q c L2 → Ev g M d n ls [] h' mc ms Q) : Ev g M d pc ls [.int (J v), .ref a] hc mc ms Q := by
  subst hL
  refine ev_mono (mc := 0 + mc) (ms := 0 + ms) (by omega) (by omega) ?_
  exact ev_callS n Lk (k_fill hN (K.get hi).1 (K.get hi).2.1) hd1 rfl rfl (Nat.le_of_ble_eq_true rfl) hd hn (fun v h' hq => by obtain ⟨e, hp⟩ := hq; cases e; exact kk h' (by rw [hp]; exact K.sets hi)) (fun E h' hq => nomatch hq.1)
end AL2
section AL3
variable {g : Gt} {h : AH} {q : Nat} {c : AC}
theorem k_Jxa1e45_init_da8c8 (hq : h q = some c) (hb : gB g ≤ q) : Cn g M_Jxa1e45_init_da8c8 1 [.ref q] h 0 0 (NQ (fun h' => KN g h h' q c [])) := by
  refine cn_of_ev rfl rfl (ls := [some (.ref q)]) rfl (Nat.le_of_ble_eq_true rfl) ?_
  refine ev_ald0 1 dJxa1e45_init_da8c8_0 rfl ?_
  refine ev_objInit 4 dJxa1e45_init_da8c8_1 oi_Jxa1e45_1 oi_w.1 oi_w.2 (by decide) (Nat.le_of_ble_eq_true rfl) rfl ?_
  exact ev_vreturn ⟨rfl, KN.start hq hb⟩ rfl dJxa1e45_init_da8c8_4
end AL3
set_option maxRecDepth 100000 in
set_option maxHeartbeats 4000000 in
theorem k_Jxc12de_init_da8c8 {g : Gt} {h : AH} {q : Nat} (hq : h q = some (.inr (2, [.int 0, .null, .int 0]))) (hb : gB g ≤ q) : Cn g M_Jxc12de_init_da8c8 2 [.ref q] h 0 0 (NQ (fun h' => KN g h h' q (.inr (2, [.int (J (0)), .null, .int 0])) ([]))) := by
  refine cn_of_ev rfl rfl (ls := [some (.ref q)]) rfl (Nat.le_of_ble_eq_true rfl) ?_
  have K : KN g h h q (.inr (2, [.int 0, .null, .int 0])) [] := KN.start hq hb
  refine ev_ald0 1 dJxc12de_init_da8c8_0 rfl ?_
  refine ev_mono (mc := 0 + 0) (ms := 0 + 0) (Nat.le_of_ble_eq_true rfl) (Nat.le_of_ble_eq_true rfl) ?_
  refine kv_init 4 lki_Jxc12de_1 (k_Jxa1e45_init_da8c8 K.1.1 K.1.2.1) (by decide) rfl rfl (Nat.le_of_ble_eq_true rfl) dJxc12de_init_da8c8_1 rfl (fun h1 K2 => ?_)
  have K : KN g h h1 q (.inr (2, [.int 0, .null, .int 0])) ([]) := K.trq K2
  refine ev_ald0 5 dJxc12de_init_da8c8_4 rfl ?_
  refine tj_iconst 6 dJxc12de_init_da8c8_5 rfl ?_
  refine kv_putq 9 0 .int fl_Jxc12de_7_2 fp_2_0 K rfl rfl (Nat.le_of_ble_eq_true rfl) dJxc12de_init_da8c8_6 rfl rfl (fun h2 (K : KN g h h2 q (.inr (2, [.int (J (0)), .null, .int 0])) ([])) => ?_)
  exact ev_vreturn ⟨rfl, K⟩ rfl dJxc12de_init_da8c8_9
set_option maxRecDepth 100000 in
set_option maxHeartbeats 4000000 in
theorem k_Jx4a65c_init_da8c8 {g : Gt} {h : AH} {q : Nat} (hq : h q = some (.inr (2, [.int 0, .null, .int 0]))) (hb : gB g ≤ q) : Cn g M_Jx4a65c_init_da8c8 3 [.ref q] h 0 0 (NQ (fun h' => KN g h h' q (.inr (2, [.int (J (0)), .ref (gE g), .int 0])) ([]))) := by
  refine cn_of_ev rfl rfl (ls := [some (.ref q)]) rfl (Nat.le_of_ble_eq_true rfl) ?_
  have K : KN g h h q (.inr (2, [.int 0, .null, .int 0])) [] := KN.start hq hb
  refine ev_ald0 1 dJx4a65c_init_da8c8_0 rfl ?_
  refine ev_mono (mc := 0 + 0) (ms := 0 + 0) (Nat.le_of_ble_eq_true rfl) (Nat.le_of_ble_eq_true rfl) ?_
  refine kv_init 4 lki_Jx4a65c_1 (k_Jxc12de_init_da8c8 K.1.1 K.1.2.1) (by decide) rfl rfl (Nat.le_of_ble_eq_true rfl) dJx4a65c_init_da8c8_1 rfl (fun h1 K2 => ?_)
  have K : KN g h h1 q (.inr (2, [.int (J (0)), .null, .int 0])) ([]) := K.trq K2
  refine ev_ald0 5 dJx4a65c_init_da8c8_4 rfl ?_
  refine ev_getEm 8 dJx4a65c_init_da8c8_5 em_Jx4a65c_39 rfl ?_
  refine kv_putq 11 1 (.array (.object "java/lang/Object")) fl_Jx4a65c_9_2 fp_2_1 K rfl rfl (Nat.le_of_ble_eq_true rfl) dJx4a65c_init_da8c8_8 rfl rfl (fun h2 (K : KN g h h2 q (.inr (2, [.int (J (0)), .ref (gE g), .int 0])) ([])) => ?_)
  exact ev_vreturn ⟨rfl, K⟩ rfl dJx4a65c_init_da8c8_11
set_option maxRecDepth 100000 in
set_option maxHeartbeats 4000000 in
theorem k_X8_init {g : Gt} {h : AH} {q : Nat} {p1 : Int} (hq : h q = some (.inr (10, [.int 0, .null, .null, .null, .null, .null, .null]))) (hb : gB g ≤ q) : Cn g M_X8_init 4 [.ref q, .int (J p1)] h 26 180 (NQ (fun h' => ∃ (a1 : Nat) (a2 : Nat) (a3 : Nat) (a4 : Nat) (a5 : Nat) (a6 : Nat) (r7 : Nat → Nat), KN g h h' q (.inr (10, [.int (J p1), .ref a1, .ref a2, .ref a3, .ref a4, .ref a5, .ref a6])) ((a1, zz 20) :: (a2, zz 20) :: (a3, fi 20 (-1)) :: (a4, fi 20 (-1)) :: (a5, zi 20) :: (a6, rowsC 20 r7) :: (List.range 20).map (fun i => (r7 i, zi 3))))) := by
  refine cn_of_ev rfl rfl (ls := [some (.ref q), some (.int (J p1))]) rfl (Nat.le_of_ble_eq_true rfl) ?_
  have K : KN g h h q (.inr (10, [.int 0, .null, .null, .null, .null, .null, .null])) [] := KN.start hq hb
  refine ev_ald0 1 dX8_init_0 rfl ?_
  refine ev_objInit 4 dX8_init_1 oi_X8_3 oi_w.1 oi_w.2 (by decide) (Nat.le_of_ble_eq_true rfl) rfl ?_
  refine ev_ald0 5 dX8_init_4 rfl ?_
  refine tj_bipush 7 dX8_init_5 (by decide) rfl ?_
  refine ev_mono (mc := 25 + 1) (ms := 160 + 20) (Nat.le_of_ble_eq_true rfl) (Nat.le_of_ble_eq_true rfl) ?_
  refine kv_newa 9 dX8_init_7 rfl rfl (ki := 1) (N' := 20) awboolean (fun _ => rfl) (by decide) (by decide) (by decide) rfl K (fun h1 a1 (K : KN g h h1 q (.inr (10, [.int 0, .null, .null, .null, .null, .null, .null])) ([(a1, zz 20)])) => ?_)
  refine kv_putfin 12 1 (.array .boolean) fl_X8_9_10 fp_10_1 rfl (fun q hq => by cases hq; rfl) K rfl rfl (Nat.le_of_ble_eq_true rfl) dX8_init_9 rfl rfl (fun h2 (K : KN g h h2 q (.inr (10, [.int 0, .ref a1, .null, .null, .null, .null, .null])) ([(a1, zz 20)])) => ?_)
  refine ev_ald0 13 dX8_init_12 rfl ?_
  refine tj_bipush 15 dX8_init_13 (by decide) rfl ?_
  refine ev_mono (mc := 24 + 1) (ms := 140 + 20) (Nat.le_of_ble_eq_true rfl) (Nat.le_of_ble_eq_true rfl) ?_
  refine kv_newa 17 dX8_init_15 rfl rfl (ki := 1) (N' := 20) awboolean (fun _ => rfl) (by decide) (by decide) (by decide) rfl K (fun h3 a2 (K : KN g h h3 q (.inr (10, [.int 0, .ref a1, .null, .null, .null, .null, .null])) ([(a1, zz 20), (a2, zz 20)])) => ?_)
  refine kv_putfin 20 2 (.array .boolean) fl_X8_15_10 fp_10_2 rfl (fun q hq => by cases hq; rfl) K rfl rfl (Nat.le_of_ble_eq_true rfl) dX8_init_17 rfl rfl (fun h4 (K : KN g h h4 q (.inr (10, [.int 0, .ref a1, .ref a2, .null, .null, .null, .null])) ([(a1, zz 20), (a2, zz 20)])) => ?_)
  refine ev_ald0 21 dX8_init_20 rfl ?_
  refine tj_bipush 23 dX8_init_21 (by decide) rfl ?_
  refine ev_mono (mc := 23 + 1) (ms := 120 + 20) (Nat.le_of_ble_eq_true rfl) (Nat.le_of_ble_eq_true rfl) ?_
  refine kv_newa 25 dX8_init_23 rfl rfl (ki := 0) (N' := 20) awint (fun _ => rfl) (by decide) (by decide) (by decide) rfl K (fun h5 a3 (K : KN g h h5 q (.inr (10, [.int 0, .ref a1, .ref a2, .null, .null, .null, .null])) ([(a1, zz 20), (a2, zz 20), (a3, zi 20)])) => ?_)
  refine kv_putfin 28 3 (.array .int) fl_X8_18_10 fp_10_3 rfl (fun q hq => by cases hq; rfl) K rfl rfl (Nat.le_of_ble_eq_true rfl) dX8_init_25 rfl rfl (fun h6 (K : KN g h h6 q (.inr (10, [.int 0, .ref a1, .ref a2, .ref a3, .null, .null, .null])) ([(a1, zz 20), (a2, zz 20), (a3, zi 20)])) => ?_)
  refine ev_ald0 29 dX8_init_28 rfl ?_
  refine tj_bipush 31 dX8_init_29 (by decide) rfl ?_
  refine ev_mono (mc := 22 + 1) (ms := 100 + 20) (Nat.le_of_ble_eq_true rfl) (Nat.le_of_ble_eq_true rfl) ?_
  refine kv_newa 33 dX8_init_31 rfl rfl (ki := 0) (N' := 20) awint (fun _ => rfl) (by decide) (by decide) (by decide) rfl K (fun h7 a4 (K : KN g h h7 q (.inr (10, [.int 0, .ref a1, .ref a2, .ref a3, .null, .null, .null])) ([(a1, zz 20), (a2, zz 20), (a3, zi 20), (a4, zi 20)])) => ?_)
  refine kv_putfin 36 4 (.array .int) fl_X8_22_10 fp_10_4 rfl (fun q hq => by cases hq; rfl) K rfl rfl (Nat.le_of_ble_eq_true rfl) dX8_init_33 rfl rfl (fun h8 (K : KN g h h8 q (.inr (10, [.int 0, .ref a1, .ref a2, .ref a3, .ref a4, .null, .null])) ([(a1, zz 20), (a2, zz 20), (a3, zi 20), (a4, zi 20)])) => ?_)
  refine ev_ald0 37 dX8_init_36 rfl ?_
  refine tj_bipush 39 dX8_init_37 (by decide) rfl ?_
  refine ev_mono (mc := 21 + 1) (ms := 80 + 20) (Nat.le_of_ble_eq_true rfl) (Nat.le_of_ble_eq_true rfl) ?_
  refine kv_newa 41 dX8_init_39 rfl rfl (ki := 0) (N' := 20) awint (fun _ => rfl) (by decide) (by decide) (by decide) rfl K (fun h9 a5 (K : KN g h h9 q (.inr (10, [.int 0, .ref a1, .ref a2, .ref a3, .ref a4, .null, .null])) ([(a1, zz 20), (a2, zz 20), (a3, zi 20), (a4, zi 20), (a5, zi 20)])) => ?_)
  refine kv_putfin 44 5 (.array .int) fl_X8_25_10 fp_10_5 rfl (fun q hq => by cases hq; rfl) K rfl rfl (Nat.le_of_ble_eq_true rfl) dX8_init_41 rfl rfl (fun h10 (K : KN g h h10 q (.inr (10, [.int 0, .ref a1, .ref a2, .ref a3, .ref a4, .ref a5, .null])) ([(a1, zz 20), (a2, zz 20), (a3, zi 20), (a4, zi 20), (a5, zi 20)])) => ?_)
  refine ev_ald0 45 dX8_init_44 rfl ?_
  refine tj_bipush 47 dX8_init_45 (by decide) rfl ?_
  refine tj_iconst 48 dX8_init_47 rfl ?_
  refine ev_mono (mc := 0 + (1 + 20)) (ms := 0 + (20 + 20 * 3)) (Nat.le_of_ble_eq_true rfl) (Nat.le_of_ble_eq_true rfl) ?_
  refine kv_mna 52 dX8_init_48 cl_X8_28 awint (by decide) (by decide) (by decide) (by decide) (by decide) (by decide) rfl K (fun h11 a6 r7 (K : KN g h h11 q (.inr (10, [.int 0, .ref a1, .ref a2, .ref a3, .ref a4, .ref a5, .null])) ((a1, zz 20) :: (a2, zz 20) :: (a3, zi 20) :: (a4, zi 20) :: (a5, zi 20) :: (a6, rowsC 20 r7) :: (List.range 20).map (fun i => (r7 i, zi 3)))) => ?_)
  refine kv_putfin 55 6 (.array (.array .int)) fl_X8_30_10 fp_10_6 rfl (fun q hq => by cases hq; rfl) K rfl rfl (Nat.le_of_ble_eq_true rfl) dX8_init_52 rfl rfl (fun h12 (K : KN g h h12 q (.inr (10, [.int 0, .ref a1, .ref a2, .ref a3, .ref a4, .ref a5, .ref a6])) ((a1, zz 20) :: (a2, zz 20) :: (a3, zi 20) :: (a4, zi 20) :: (a5, zi 20) :: (a6, rowsC 20 r7) :: (List.range 20).map (fun i => (r7 i, zi 3)))) => ?_)
  refine ev_ald0 56 dX8_init_55 rfl ?_
  refine ev_ild1 57 dX8_init_56 rfl ?_
  refine kv_putq 60 0 .int fl_X8_33_10 fp_10_0 K rfl rfl (Nat.le_of_ble_eq_true rfl) dX8_init_57 rfl rfl (fun h13 (K : KN g h h13 q (.inr (10, [.int (J p1), .ref a1, .ref a2, .ref a3, .ref a4, .ref a5, .ref a6])) ((a1, zz 20) :: (a2, zz 20) :: (a3, zi 20) :: (a4, zi 20) :: (a5, zi 20) :: (a6, rowsC 20 r7) :: (List.range 20).map (fun i => (r7 i, zi 3)))) => ?_)
  refine ev_ald0 61 dX8_init_60 rfl ?_
  refine ev_getfield 64 10 3 fl_X8_18_10 K.1.1 rfl dX8_init_61 rfl ?_
  refine tj_iconst 65 dX8_init_64 rfl ?_
  refine kv_fill 68 lks_X8_37 (by decide) dX8_init_65 (i := 2) K rfl rfl (by decide) rfl (fun h14 (K : KN g h h14 q (.inr (10, [.int (J p1), .ref a1, .ref a2, .ref a3, .ref a4, .ref a5, .ref a6])) ((a1, zz 20) :: (a2, zz 20) :: (a3, fi 20 (-1)) :: (a4, zi 20) :: (a5, zi 20) :: (a6, rowsC 20 r7) :: (List.range 20).map (fun i => (r7 i, zi 3)))) => ?_)
  refine ev_ald0 69 dX8_init_68 rfl ?_
  refine ev_getfield 72 10 4 fl_X8_22_10 K.1.1 rfl dX8_init_69 rfl ?_
  refine tj_iconst 73 dX8_init_72 rfl ?_
  refine kv_fill 76 lks_X8_37 (by decide) dX8_init_73 (i := 3) K rfl rfl (by decide) rfl (fun h15 (K : KN g h h15 q (.inr (10, [.int (J p1), .ref a1, .ref a2, .ref a3, .ref a4, .ref a5, .ref a6])) ((a1, zz 20) :: (a2, zz 20) :: (a3, fi 20 (-1)) :: (a4, fi 20 (-1)) :: (a5, zi 20) :: (a6, rowsC 20 r7) :: (List.range 20).map (fun i => (r7 i, zi 3)))) => ?_)
  exact ev_vreturn ⟨rfl, a1, a2, a3, a4, a5, a6, r7, K⟩ rfl dX8_init_76
set_option maxRecDepth 100000 in
set_option maxHeartbeats 4000000 in
theorem k_X2_init {g : Gt} {h : AH} {q : Nat} {p1 p2 p3 : Int} (hq : h q = some (.inr (5, [.int 0, .int 0, .int 0, .null, .null, .int 0]))) (hb : gB g ≤ q) : Cn g M_X2_init 4 [.ref q, .int (J p1), .int (J p2), .int (J p3)] h 2 7 (NQ (fun h' => ∃ (a1 : Nat) (a2 : Nat), KN g h h' q (.inr (5, [.int (J p1), .int (J p2), .int (J p3), .ref a1, .ref a2, .int (J (-1))])) ([(a1, zi 4), (a2, .inr (2, [.int (J (0)), .ref (gE g), .int 0]))]))) := by
  refine cn_of_ev rfl rfl (ls := [some (.ref q), some (.int (J p1)), some (.int (J p2)), some (.int (J p3))]) rfl (Nat.le_of_ble_eq_true rfl) ?_
  have K : KN g h h q (.inr (5, [.int 0, .int 0, .int 0, .null, .null, .int 0])) [] := KN.start hq hb
  refine ev_ald0 1 dX2_init_0 rfl ?_
  refine ev_objInit 4 dX2_init_1 oi_X2_3 oi_w.1 oi_w.2 (by decide) (Nat.le_of_ble_eq_true rfl) rfl ?_
  refine ev_ald0 5 dX2_init_4 rfl ?_
  refine tj_iconst 6 dX2_init_5 rfl ?_
  refine ev_mono (mc := 1 + 1) (ms := 3 + 4) (Nat.le_of_ble_eq_true rfl) (Nat.le_of_ble_eq_true rfl) ?_
  refine kv_newa 8 dX2_init_6 rfl rfl (ki := 0) (N' := 4) awint (fun _ => rfl) (by decide) (by decide) (by decide) rfl K (fun h1 a1 (K : KN g h h1 q (.inr (5, [.int 0, .int 0, .int 0, .null, .null, .int 0])) ([(a1, zi 4)])) => ?_)
  refine kv_putfin 11 3 (.array .int) fl_X2_9_5 fp_5_3 rfl (fun q hq => by cases hq; rfl) K rfl rfl (Nat.le_of_ble_eq_true rfl) dX2_init_8 rfl rfl (fun h2 (K : KN g h h2 q (.inr (5, [.int 0, .int 0, .int 0, .ref a1, .null, .int 0])) ([(a1, zi 4)])) => ?_)
  refine ev_ald0 12 dX2_init_11 rfl ?_
  refine ev_mono (mc := 0 + 1) (ms := 0 + 3) (Nat.le_of_ble_eq_true rfl) (Nat.le_of_ble_eq_true rfl) ?_
  refine kv_new 15 2 nw_X2_15 rfl dX2_init_12 rfl K (fun h3 a2 (K : KN g h h3 q (.inr (5, [.int 0, .int 0, .int 0, .ref a1, .null, .int 0])) ([(a1, zi 4), (a2, .inr (2, [.int 0, .null, .int 0]))])) => ?_)
  refine ev_dup 16 dX2_init_15 rfl rfl ?_
  refine ev_mono (mc := 0 + 0) (ms := 0 + 0) (Nat.le_of_ble_eq_true rfl) (Nat.le_of_ble_eq_true rfl) ?_
  refine kv_init 19 lki_X2_17 (k_Jx4a65c_init_da8c8 (K.get (i := 1) rfl).1 (K.get (i := 1) rfl).2.1) (by decide) rfl rfl (Nat.le_of_ble_eq_true rfl) dX2_init_16 rfl (fun h4 K2 => ?_)
  have K : KN g h h4 q (.inr (5, [.int 0, .int 0, .int 0, .ref a1, .null, .int 0])) ([(a1, zi 4), (a2, .inr (2, [.int (J (0)), .ref (gE g), .int 0]))]) := K.call (i := 1) rfl K2
  refine kv_putfin 22 4 (.object "java/util/ArrayList") fl_X2_18_5 fp_5_4 rfl (fun q hq => by cases hq; rfl) K rfl rfl (Nat.le_of_ble_eq_true rfl) dX2_init_19 rfl rfl (fun h5 (K : KN g h h5 q (.inr (5, [.int 0, .int 0, .int 0, .ref a1, .ref a2, .int 0])) ([(a1, zi 4), (a2, .inr (2, [.int (J (0)), .ref (gE g), .int 0]))])) => ?_)
  refine ev_ald0 23 dX2_init_22 rfl ?_
  refine tj_iconst 24 dX2_init_23 rfl ?_
  refine kv_putq 27 5 .int fl_X2_22_5 fp_5_5 K rfl rfl (Nat.le_of_ble_eq_true rfl) dX2_init_24 rfl rfl (fun h6 (K : KN g h h6 q (.inr (5, [.int 0, .int 0, .int 0, .ref a1, .ref a2, .int (J (-1))])) ([(a1, zi 4), (a2, .inr (2, [.int (J (0)), .ref (gE g), .int 0]))])) => ?_)
  refine ev_ald0 28 dX2_init_27 rfl ?_
  refine ev_ild1 29 dX2_init_28 rfl ?_
  refine kv_putfin 32 0 .int fl_X2_26_5 fp_5_0 rfl (fun q hq => by cases hq; rfl) K rfl rfl (Nat.le_of_ble_eq_true rfl) dX2_init_29 rfl rfl (fun h7 (K : KN g h h7 q (.inr (5, [.int (J p1), .int 0, .int 0, .ref a1, .ref a2, .int (J (-1))])) ([(a1, zi 4), (a2, .inr (2, [.int (J (0)), .ref (gE g), .int 0]))])) => ?_)
  refine ev_ald0 33 dX2_init_32 rfl ?_
  refine ev_ild2 34 dX2_init_33 rfl ?_
  refine kv_putfin 37 1 .int fl_X2_29_5 fp_5_1 rfl (fun q hq => by cases hq; rfl) K rfl rfl (Nat.le_of_ble_eq_true rfl) dX2_init_34 rfl rfl (fun h8 (K : KN g h h8 q (.inr (5, [.int (J p1), .int (J p2), .int 0, .ref a1, .ref a2, .int (J (-1))])) ([(a1, zi 4), (a2, .inr (2, [.int (J (0)), .ref (gE g), .int 0]))])) => ?_)
  refine ev_ald0 38 dX2_init_37 rfl ?_
  refine ev_ild3 39 dX2_init_38 rfl ?_
  refine kv_putfin 42 2 .int fl_X2_32_5 fp_5_2 rfl (fun q hq => by cases hq; rfl) K rfl rfl (Nat.le_of_ble_eq_true rfl) dX2_init_39 rfl rfl (fun h9 (K : KN g h h9 q (.inr (5, [.int (J p1), .int (J p2), .int (J p3), .ref a1, .ref a2, .int (J (-1))])) ([(a1, zi 4), (a2, .inr (2, [.int (J (0)), .ref (gE g), .int 0]))])) => ?_)
  exact ev_vreturn ⟨rfl, a1, a2, K⟩ rfl dX2_init_42
set_option maxRecDepth 100000 in
set_option maxHeartbeats 4000000 in
theorem k_X0_init {g : Gt} {h : AH} {q : Nat} (hq : h q = some (.inr (3, [.int 0, .null, .null, .null, .null, .null, .null, .null, .null, .null]))) (hb : gB g ≤ q) : Cn g M_X0_init 4 [.ref q] h 9 324 (NQ (fun h' => ∃ (a1 : Nat) (a2 : Nat) (a3 : Nat) (a4 : Nat) (a5 : Nat) (a6 : Nat) (a7 : Nat) (a8 : Nat) (a9 : Nat), KN g h h' q (.inr (3, [.int 0, .ref a1, .ref a2, .ref a3, .ref a4, .ref a5, .ref a6, .ref a7, .ref a8, .ref a9])) ([(a1, zi 4), (a2, zi 4), (a3, zi 20), (a4, zi 4), (a5, zi 4), (a6, zi 20), (a7, zi 4), (a8, zi 4), (a9, zz 256)]))) := by
  refine cn_of_ev rfl rfl (ls := [some (.ref q)]) rfl (Nat.le_of_ble_eq_true rfl) ?_
  have K : KN g h h q (.inr (3, [.int 0, .null, .null, .null, .null, .null, .null, .null, .null, .null])) [] := KN.start hq hb
  refine ev_ald0 1 dX0_init_0 rfl ?_
  refine ev_objInit 4 dX0_init_1 oi_X0_5 oi_w.1 oi_w.2 (by decide) (Nat.le_of_ble_eq_true rfl) rfl ?_
  refine ev_ald0 5 dX0_init_4 rfl ?_
  refine tj_iconst 6 dX0_init_5 rfl ?_
  refine ev_mono (mc := 8 + 1) (ms := 320 + 4) (Nat.le_of_ble_eq_true rfl) (Nat.le_of_ble_eq_true rfl) ?_
  refine kv_newa 8 dX0_init_6 rfl rfl (ki := 0) (N' := 4) awint (fun _ => rfl) (by decide) (by decide) (by decide) rfl K (fun h1 a1 (K : KN g h h1 q (.inr (3, [.int 0, .null, .null, .null, .null, .null, .null, .null, .null, .null])) ([(a1, zi 4)])) => ?_)
  refine kv_putfin 11 1 (.array .int) fl_X0_11_3 fp_3_1 rfl (fun q hq => by cases hq; rfl) K rfl rfl (Nat.le_of_ble_eq_true rfl) dX0_init_8 rfl rfl (fun h2 (K : KN g h h2 q (.inr (3, [.int 0, .ref a1, .null, .null, .null, .null, .null, .null, .null, .null])) ([(a1, zi 4)])) => ?_)
  refine ev_ald0 12 dX0_init_11 rfl ?_
  refine tj_iconst 13 dX0_init_12 rfl ?_
  refine ev_mono (mc := 7 + 1) (ms := 316 + 4) (Nat.le_of_ble_eq_true rfl) (Nat.le_of_ble_eq_true rfl) ?_
  refine kv_newa 15 dX0_init_13 rfl rfl (ki := 0) (N' := 4) awint (fun _ => rfl) (by decide) (by decide) (by decide) rfl K (fun h3 a2 (K : KN g h h3 q (.inr (3, [.int 0, .ref a1, .null, .null, .null, .null, .null, .null, .null, .null])) ([(a1, zi 4), (a2, zi 4)])) => ?_)
  refine kv_putfin 18 2 (.array .int) fl_X0_15_3 fp_3_2 rfl (fun q hq => by cases hq; rfl) K rfl rfl (Nat.le_of_ble_eq_true rfl) dX0_init_15 rfl rfl (fun h4 (K : KN g h h4 q (.inr (3, [.int 0, .ref a1, .ref a2, .null, .null, .null, .null, .null, .null, .null])) ([(a1, zi 4), (a2, zi 4)])) => ?_)
  refine ev_ald0 19 dX0_init_18 rfl ?_
  refine tj_bipush 21 dX0_init_19 (by decide) rfl ?_
  refine ev_mono (mc := 6 + 1) (ms := 296 + 20) (Nat.le_of_ble_eq_true rfl) (Nat.le_of_ble_eq_true rfl) ?_
  refine kv_newa 23 dX0_init_21 rfl rfl (ki := 0) (N' := 20) awint (fun _ => rfl) (by decide) (by decide) (by decide) rfl K (fun h5 a3 (K : KN g h h5 q (.inr (3, [.int 0, .ref a1, .ref a2, .null, .null, .null, .null, .null, .null, .null])) ([(a1, zi 4), (a2, zi 4), (a3, zi 20)])) => ?_)
  refine kv_putfin 26 3 (.array .int) fl_X0_18_3 fp_3_3 rfl (fun q hq => by cases hq; rfl) K rfl rfl (Nat.le_of_ble_eq_true rfl) dX0_init_23 rfl rfl (fun h6 (K : KN g h h6 q (.inr (3, [.int 0, .ref a1, .ref a2, .ref a3, .null, .null, .null, .null, .null, .null])) ([(a1, zi 4), (a2, zi 4), (a3, zi 20)])) => ?_)
  refine ev_ald0 27 dX0_init_26 rfl ?_
  refine tj_iconst 28 dX0_init_27 rfl ?_
  refine ev_mono (mc := 5 + 1) (ms := 292 + 4) (Nat.le_of_ble_eq_true rfl) (Nat.le_of_ble_eq_true rfl) ?_
  refine kv_newa 30 dX0_init_28 rfl rfl (ki := 0) (N' := 4) awint (fun _ => rfl) (by decide) (by decide) (by decide) rfl K (fun h7 a4 (K : KN g h h7 q (.inr (3, [.int 0, .ref a1, .ref a2, .ref a3, .null, .null, .null, .null, .null, .null])) ([(a1, zi 4), (a2, zi 4), (a3, zi 20), (a4, zi 4)])) => ?_)
  refine kv_putfin 33 4 (.array .int) fl_X0_21_3 fp_3_4 rfl (fun q hq => by cases hq; rfl) K rfl rfl (Nat.le_of_ble_eq_true rfl) dX0_init_30 rfl rfl (fun h8 (K : KN g h h8 q (.inr (3, [.int 0, .ref a1, .ref a2, .ref a3, .ref a4, .null, .null, .null, .null, .null])) ([(a1, zi 4), (a2, zi 4), (a3, zi 20), (a4, zi 4)])) => ?_)
  refine ev_ald0 34 dX0_init_33 rfl ?_
  refine tj_iconst 35 dX0_init_34 rfl ?_
  refine ev_mono (mc := 4 + 1) (ms := 288 + 4) (Nat.le_of_ble_eq_true rfl) (Nat.le_of_ble_eq_true rfl) ?_
  refine kv_newa 37 dX0_init_35 rfl rfl (ki := 0) (N' := 4) awint (fun _ => rfl) (by decide) (by decide) (by decide) rfl K (fun h9 a5 (K : KN g h h9 q (.inr (3, [.int 0, .ref a1, .ref a2, .ref a3, .ref a4, .null, .null, .null, .null, .null])) ([(a1, zi 4), (a2, zi 4), (a3, zi 20), (a4, zi 4), (a5, zi 4)])) => ?_)
  refine kv_putfin 40 5 (.array .int) fl_X0_24_3 fp_3_5 rfl (fun q hq => by cases hq; rfl) K rfl rfl (Nat.le_of_ble_eq_true rfl) dX0_init_37 rfl rfl (fun h10 (K : KN g h h10 q (.inr (3, [.int 0, .ref a1, .ref a2, .ref a3, .ref a4, .ref a5, .null, .null, .null, .null])) ([(a1, zi 4), (a2, zi 4), (a3, zi 20), (a4, zi 4), (a5, zi 4)])) => ?_)
  refine ev_ald0 41 dX0_init_40 rfl ?_
  refine tj_bipush 43 dX0_init_41 (by decide) rfl ?_
  refine ev_mono (mc := 3 + 1) (ms := 268 + 20) (Nat.le_of_ble_eq_true rfl) (Nat.le_of_ble_eq_true rfl) ?_
  refine kv_newa 45 dX0_init_43 rfl rfl (ki := 0) (N' := 20) awint (fun _ => rfl) (by decide) (by decide) (by decide) rfl K (fun h11 a6 (K : KN g h h11 q (.inr (3, [.int 0, .ref a1, .ref a2, .ref a3, .ref a4, .ref a5, .null, .null, .null, .null])) ([(a1, zi 4), (a2, zi 4), (a3, zi 20), (a4, zi 4), (a5, zi 4), (a6, zi 20)])) => ?_)
  refine kv_putfin 48 6 (.array .int) fl_X0_27_3 fp_3_6 rfl (fun q hq => by cases hq; rfl) K rfl rfl (Nat.le_of_ble_eq_true rfl) dX0_init_45 rfl rfl (fun h12 (K : KN g h h12 q (.inr (3, [.int 0, .ref a1, .ref a2, .ref a3, .ref a4, .ref a5, .ref a6, .null, .null, .null])) ([(a1, zi 4), (a2, zi 4), (a3, zi 20), (a4, zi 4), (a5, zi 4), (a6, zi 20)])) => ?_)
  refine ev_ald0 49 dX0_init_48 rfl ?_
  refine tj_iconst 50 dX0_init_49 rfl ?_
  refine ev_mono (mc := 2 + 1) (ms := 264 + 4) (Nat.le_of_ble_eq_true rfl) (Nat.le_of_ble_eq_true rfl) ?_
  refine kv_newa 52 dX0_init_50 rfl rfl (ki := 0) (N' := 4) awint (fun _ => rfl) (by decide) (by decide) (by decide) rfl K (fun h13 a7 (K : KN g h h13 q (.inr (3, [.int 0, .ref a1, .ref a2, .ref a3, .ref a4, .ref a5, .ref a6, .null, .null, .null])) ([(a1, zi 4), (a2, zi 4), (a3, zi 20), (a4, zi 4), (a5, zi 4), (a6, zi 20), (a7, zi 4)])) => ?_)
  refine kv_putfin 55 7 (.array .int) fl_X0_30_3 fp_3_7 rfl (fun q hq => by cases hq; rfl) K rfl rfl (Nat.le_of_ble_eq_true rfl) dX0_init_52 rfl rfl (fun h14 (K : KN g h h14 q (.inr (3, [.int 0, .ref a1, .ref a2, .ref a3, .ref a4, .ref a5, .ref a6, .ref a7, .null, .null])) ([(a1, zi 4), (a2, zi 4), (a3, zi 20), (a4, zi 4), (a5, zi 4), (a6, zi 20), (a7, zi 4)])) => ?_)
  refine ev_ald0 56 dX0_init_55 rfl ?_
  refine tj_iconst 57 dX0_init_56 rfl ?_
  refine ev_mono (mc := 1 + 1) (ms := 260 + 4) (Nat.le_of_ble_eq_true rfl) (Nat.le_of_ble_eq_true rfl) ?_
  refine kv_newa 59 dX0_init_57 rfl rfl (ki := 0) (N' := 4) awint (fun _ => rfl) (by decide) (by decide) (by decide) rfl K (fun h15 a8 (K : KN g h h15 q (.inr (3, [.int 0, .ref a1, .ref a2, .ref a3, .ref a4, .ref a5, .ref a6, .ref a7, .null, .null])) ([(a1, zi 4), (a2, zi 4), (a3, zi 20), (a4, zi 4), (a5, zi 4), (a6, zi 20), (a7, zi 4), (a8, zi 4)])) => ?_)
  refine kv_putfin 62 8 (.array .int) fl_X0_33_3 fp_3_8 rfl (fun q hq => by cases hq; rfl) K rfl rfl (Nat.le_of_ble_eq_true rfl) dX0_init_59 rfl rfl (fun h16 (K : KN g h h16 q (.inr (3, [.int 0, .ref a1, .ref a2, .ref a3, .ref a4, .ref a5, .ref a6, .ref a7, .ref a8, .null])) ([(a1, zi 4), (a2, zi 4), (a3, zi 20), (a4, zi 4), (a5, zi 4), (a6, zi 20), (a7, zi 4), (a8, zi 4)])) => ?_)
  refine ev_ald0 63 dX0_init_62 rfl ?_
  refine tj_sipush 66 dX0_init_63 (by decide) rfl ?_
  refine ev_mono (mc := 0 + 1) (ms := 4 + 256) (Nat.le_of_ble_eq_true rfl) (Nat.le_of_ble_eq_true rfl) ?_
  refine kv_newa 68 dX0_init_66 rfl rfl (ki := 1) (N' := 256) awboolean (fun _ => rfl) (by decide) (by decide) (by decide) rfl K (fun h17 a9 (K : KN g h h17 q (.inr (3, [.int 0, .ref a1, .ref a2, .ref a3, .ref a4, .ref a5, .ref a6, .ref a7, .ref a8, .null])) ([(a1, zi 4), (a2, zi 4), (a3, zi 20), (a4, zi 4), (a5, zi 4), (a6, zi 20), (a7, zi 4), (a8, zi 4), (a9, zz 256)])) => ?_)
  refine kv_putfin 71 9 (.array .boolean) fl_X0_36_3 fp_3_9 rfl (fun q hq => by cases hq; rfl) K rfl rfl (Nat.le_of_ble_eq_true rfl) dX0_init_68 rfl rfl (fun h18 (K : KN g h h18 q (.inr (3, [.int 0, .ref a1, .ref a2, .ref a3, .ref a4, .ref a5, .ref a6, .ref a7, .ref a8, .ref a9])) ([(a1, zi 4), (a2, zi 4), (a3, zi 20), (a4, zi 4), (a5, zi 4), (a6, zi 20), (a7, zi 4), (a8, zi 4), (a9, zz 256)])) => ?_)
  exact ev_vreturn ⟨rfl, a1, a2, a3, a4, a5, a6, a7, a8, a9, K⟩ rfl dX0_init_71
set_option maxRecDepth 100000 in
set_option maxHeartbeats 4000000 in
theorem k_X10_init {g : Gt} {h : AH} {q : Nat} (hq : h q = some (.inr (12, [.null, .int 0]))) (hb : gB g ≤ q) : Cn g M_X10_init 4 [.ref q] h 1 340 (NQ (fun h' => ∃ (a1 : Nat), KN g h h' q (.inr (12, [.ref a1, .int 0])) ([(a1, zc 340)]))) := by
  refine cn_of_ev rfl rfl (ls := [some (.ref q)]) rfl (Nat.le_of_ble_eq_true rfl) ?_
  have K : KN g h h q (.inr (12, [.null, .int 0])) [] := KN.start hq hb
  refine ev_ald0 1 dX10_init_0 rfl ?_
  refine ev_objInit 4 dX10_init_1 oi_X10_3 oi_w.1 oi_w.2 (by decide) (Nat.le_of_ble_eq_true rfl) rfl ?_
  refine ev_ald0 5 dX10_init_4 rfl ?_
  refine tj_sipush 8 dX10_init_5 (by decide) rfl ?_
  refine ev_mono (mc := 0 + 1) (ms := 0 + 340) (Nat.le_of_ble_eq_true rfl) (Nat.le_of_ble_eq_true rfl) ?_
  refine kv_newa 10 dX10_init_8 rfl rfl (ki := 2) (N' := 340) awchar (fun _ => rfl) (by decide) (by decide) (by decide) rfl K (fun h1 a1 (K : KN g h h1 q (.inr (12, [.null, .int 0])) ([(a1, zc 340)])) => ?_)
  refine kv_putfin 13 0 (.array .char) fl_X10_11_12 fp_12_0 rfl (fun q hq => by cases hq; rfl) K rfl rfl (Nat.le_of_ble_eq_true rfl) dX10_init_10 rfl rfl (fun h2 (K : KN g h h2 q (.inr (12, [.ref a1, .int 0])) ([(a1, zc 340)])) => ?_)
  exact ev_vreturn ⟨rfl, a1, K⟩ rfl dX10_init_13
set_option maxRecDepth 100000 in
set_option maxHeartbeats 4000000 in
theorem k_X4_init_4 {g : Gt} {h : AH} {q : Nat} {p1 : Int} (hq : h q = some (.inr (4, [.int 0, .int 0, .int 0, .int 0, .int 0]))) (hb : gB g ≤ q) : Cn g M_X4_init 3 [.ref q, .int (J p1)] h 0 0 (NQ (fun h' => KN g h h' q (.inr (4, [.int (J p1), .int 0, .int 0, .int 0, .int 0])) ([]))) := by
  refine cn_of_ev rfl rfl (ls := [some (.ref q), some (.int (J p1))]) rfl (Nat.le_of_ble_eq_true rfl) ?_
  have K : KN g h h q (.inr (4, [.int 0, .int 0, .int 0, .int 0, .int 0])) [] := KN.start hq hb
  refine ev_ald0 1 dX4_init_0 rfl ?_
  refine ev_objInit 4 dX4_init_1 oi_X4_3 oi_w.1 oi_w.2 (by decide) (Nat.le_of_ble_eq_true rfl) rfl ?_
  refine ev_ald0 5 dX4_init_4 rfl ?_
  refine ev_ild1 6 dX4_init_5 rfl ?_
  refine kv_putfin 9 0 .int fl_X4_9_4 fp_4_0 rfl (fun q hq => by cases hq; rfl) K rfl rfl (Nat.le_of_ble_eq_true rfl) dX4_init_6 rfl rfl (fun h1 (K : KN g h h1 q (.inr (4, [.int (J p1), .int 0, .int 0, .int 0, .int 0])) ([])) => ?_)
  exact ev_vreturn ⟨rfl, K⟩ rfl dX4_init_9
set_option maxRecDepth 100000 in
set_option maxHeartbeats 4000000 in
theorem k_X4_init_6 {g : Gt} {h : AH} {q : Nat} {p1 : Int} (hq : h q = some (.inr (6, [.int 0, .int 0]))) (hb : gB g ≤ q) : Cn g M_X4_init 3 [.ref q, .int (J p1)] h 0 0 (NQ (fun h' => KN g h h' q (.inr (6, [.int (J p1), .int 0])) ([]))) := by
  refine cn_of_ev rfl rfl (ls := [some (.ref q), some (.int (J p1))]) rfl (Nat.le_of_ble_eq_true rfl) ?_
  have K : KN g h h q (.inr (6, [.int 0, .int 0])) [] := KN.start hq hb
  refine ev_ald0 1 dX4_init_0 rfl ?_
  refine ev_objInit 4 dX4_init_1 oi_X4_3 oi_w.1 oi_w.2 (by decide) (Nat.le_of_ble_eq_true rfl) rfl ?_
  refine ev_ald0 5 dX4_init_4 rfl ?_
  refine ev_ild1 6 dX4_init_5 rfl ?_
  refine kv_putfin 9 0 .int fl_X4_9_6 fp_6_0 rfl (fun q hq => by cases hq; rfl) K rfl rfl (Nat.le_of_ble_eq_true rfl) dX4_init_6 rfl rfl (fun h1 (K : KN g h h1 q (.inr (6, [.int (J p1), .int 0])) ([])) => ?_)
  exact ev_vreturn ⟨rfl, K⟩ rfl dX4_init_9
set_option maxRecDepth 100000 in
set_option maxHeartbeats 4000000 in
theorem k_X4_init_7 {g : Gt} {h : AH} {q : Nat} {p1 : Int} (hq : h q = some (.inr (7, [.int 0, .int 0, .int 0]))) (hb : gB g ≤ q) : Cn g M_X4_init 3 [.ref q, .int (J p1)] h 0 0 (NQ (fun h' => KN g h h' q (.inr (7, [.int (J p1), .int 0, .int 0])) ([]))) := by
  refine cn_of_ev rfl rfl (ls := [some (.ref q), some (.int (J p1))]) rfl (Nat.le_of_ble_eq_true rfl) ?_
  have K : KN g h h q (.inr (7, [.int 0, .int 0, .int 0])) [] := KN.start hq hb
  refine ev_ald0 1 dX4_init_0 rfl ?_
  refine ev_objInit 4 dX4_init_1 oi_X4_3 oi_w.1 oi_w.2 (by decide) (Nat.le_of_ble_eq_true rfl) rfl ?_
  refine ev_ald0 5 dX4_init_4 rfl ?_
  refine ev_ild1 6 dX4_init_5 rfl ?_
  refine kv_putfin 9 0 .int fl_X4_9_7 fp_7_0 rfl (fun q hq => by cases hq; rfl) K rfl rfl (Nat.le_of_ble_eq_true rfl) dX4_init_6 rfl rfl (fun h1 (K : KN g h h1 q (.inr (7, [.int (J p1), .int 0, .int 0])) ([])) => ?_)
  exact ev_vreturn ⟨rfl, K⟩ rfl dX4_init_9
set_option maxRecDepth 100000 in
set_option maxHeartbeats 4000000 in
theorem k_X4_init_8 {g : Gt} {h : AH} {q : Nat} {p1 : Int} (hq : h q = some (.inr (8, [.int 0, .int 0]))) (hb : gB g ≤ q) : Cn g M_X4_init 3 [.ref q, .int (J p1)] h 0 0 (NQ (fun h' => KN g h h' q (.inr (8, [.int (J p1), .int 0])) ([]))) := by
  refine cn_of_ev rfl rfl (ls := [some (.ref q), some (.int (J p1))]) rfl (Nat.le_of_ble_eq_true rfl) ?_
  have K : KN g h h q (.inr (8, [.int 0, .int 0])) [] := KN.start hq hb
  refine ev_ald0 1 dX4_init_0 rfl ?_
  refine ev_objInit 4 dX4_init_1 oi_X4_3 oi_w.1 oi_w.2 (by decide) (Nat.le_of_ble_eq_true rfl) rfl ?_
  refine ev_ald0 5 dX4_init_4 rfl ?_
  refine ev_ild1 6 dX4_init_5 rfl ?_
  refine kv_putfin 9 0 .int fl_X4_9_8 fp_8_0 rfl (fun q hq => by cases hq; rfl) K rfl rfl (Nat.le_of_ble_eq_true rfl) dX4_init_6 rfl rfl (fun h1 (K : KN g h h1 q (.inr (8, [.int (J p1), .int 0])) ([])) => ?_)
  exact ev_vreturn ⟨rfl, K⟩ rfl dX4_init_9
set_option maxRecDepth 100000 in
set_option maxHeartbeats 4000000 in
theorem k_X4_init_11 {g : Gt} {h : AH} {q : Nat} {p1 : Int} (hq : h q = some (.inr (11, [.int 0, .int 0]))) (hb : gB g ≤ q) : Cn g M_X4_init 3 [.ref q, .int (J p1)] h 0 0 (NQ (fun h' => KN g h h' q (.inr (11, [.int (J p1), .int 0])) ([]))) := by
  refine cn_of_ev rfl rfl (ls := [some (.ref q), some (.int (J p1))]) rfl (Nat.le_of_ble_eq_true rfl) ?_
  have K : KN g h h q (.inr (11, [.int 0, .int 0])) [] := KN.start hq hb
  refine ev_ald0 1 dX4_init_0 rfl ?_
  refine ev_objInit 4 dX4_init_1 oi_X4_3 oi_w.1 oi_w.2 (by decide) (Nat.le_of_ble_eq_true rfl) rfl ?_
  refine ev_ald0 5 dX4_init_4 rfl ?_
  refine ev_ild1 6 dX4_init_5 rfl ?_
  refine kv_putfin 9 0 .int fl_X4_9_11 fp_11_0 rfl (fun q hq => by cases hq; rfl) K rfl rfl (Nat.le_of_ble_eq_true rfl) dX4_init_6 rfl rfl (fun h1 (K : KN g h h1 q (.inr (11, [.int (J p1), .int 0])) ([])) => ?_)
  exact ev_vreturn ⟨rfl, K⟩ rfl dX4_init_9
set_option maxRecDepth 100000 in
set_option maxHeartbeats 4000000 in
theorem k_X1_init {g : Gt} {h : AH} {q : Nat} {p1 p2 p3 p4 p5 : Int} (hq : h q = some (.inr (4, [.int 0, .int 0, .int 0, .int 0, .int 0]))) (hb : gB g ≤ q) : Cn g M_X1_init 4 [.ref q, .int (J p1), .int (J p2), .int (J p3), .int (J p4), .int (J p5)] h 0 0 (NQ (fun h' => KN g h h' q (.inr (4, [.int (J p1), .int (J p2), .int (J p3), .int (J p4), .int (J p5)])) ([]))) := by
  refine cn_of_ev rfl rfl (ls := [some (.ref q), some (.int (J p1)), some (.int (J p2)), some (.int (J p3)), some (.int (J p4)), some (.int (J p5))]) rfl (Nat.le_of_ble_eq_true rfl) ?_
  have K : KN g h h q (.inr (4, [.int 0, .int 0, .int 0, .int 0, .int 0])) [] := KN.start hq hb
  refine ev_ald0 1 dX1_init_0 rfl ?_
  refine ev_ild1 2 dX1_init_1 rfl ?_
  refine ev_mono (mc := 0 + 0) (ms := 0 + 0) (Nat.le_of_ble_eq_true rfl) (Nat.le_of_ble_eq_true rfl) ?_
  refine kv_init 5 lki_X1_3 (k_X4_init_4 K.1.1 K.1.2.1) (by decide) rfl rfl (Nat.le_of_ble_eq_true rfl) dX1_init_2 rfl (fun h1 K2 => ?_)
  have K : KN g h h1 q (.inr (4, [.int (J p1), .int 0, .int 0, .int 0, .int 0])) ([]) := K.trq K2
  refine ev_ald0 6 dX1_init_5 rfl ?_
  refine ev_ild2 7 dX1_init_6 rfl ?_
  refine kv_putfin 10 1 .int fl_X1_9_4 fp_4_1 rfl (fun q hq => by cases hq; rfl) K rfl rfl (Nat.le_of_ble_eq_true rfl) dX1_init_7 rfl rfl (fun h2 (K : KN g h h2 q (.inr (4, [.int (J p1), .int (J p2), .int 0, .int 0, .int 0])) ([])) => ?_)
  refine ev_ald0 11 dX1_init_10 rfl ?_
  refine ev_ild3 12 dX1_init_11 rfl ?_
  refine kv_putfin 15 2 .int fl_X1_15_4 fp_4_2 rfl (fun q hq => by cases hq; rfl) K rfl rfl (Nat.le_of_ble_eq_true rfl) dX1_init_12 rfl rfl (fun h3 (K : KN g h h3 q (.inr (4, [.int (J p1), .int (J p2), .int (J p3), .int 0, .int 0])) ([])) => ?_)
  refine ev_ald0 16 dX1_init_15 rfl ?_
  refine ev_ild4 18 dX1_init_16 rfl ?_
  refine kv_putfin 21 3 .int fl_X1_18_4 fp_4_3 rfl (fun q hq => by cases hq; rfl) K rfl rfl (Nat.le_of_ble_eq_true rfl) dX1_init_18 rfl rfl (fun h4 (K : KN g h h4 q (.inr (4, [.int (J p1), .int (J p2), .int (J p3), .int (J p4), .int 0])) ([])) => ?_)
  refine ev_ald0 22 dX1_init_21 rfl ?_
  refine ev_ild5 24 dX1_init_22 rfl ?_
  refine kv_putfin 27 4 .int fl_X1_21_4 fp_4_4 rfl (fun q hq => by cases hq; rfl) K rfl rfl (Nat.le_of_ble_eq_true rfl) dX1_init_24 rfl rfl (fun h5 (K : KN g h h5 q (.inr (4, [.int (J p1), .int (J p2), .int (J p3), .int (J p4), .int (J p5)])) ([])) => ?_)
  exact ev_vreturn ⟨rfl, K⟩ rfl dX1_init_27
set_option maxRecDepth 100000 in
set_option maxHeartbeats 4000000 in
theorem k_X3_init {g : Gt} {h : AH} {q : Nat} {p1 : Int} (hq : h q = some (.inr (6, [.int 0, .int 0]))) (hb : gB g ≤ q) : Cn g M_X3_init 4 [.ref q, .int (J p1)] h 0 0 (NQ (fun h' => KN g h h' q (.inr (6, [.int (J (0)), .int (J p1)])) ([]))) := by
  refine cn_of_ev rfl rfl (ls := [some (.ref q), some (.int (J p1))]) rfl (Nat.le_of_ble_eq_true rfl) ?_
  have K : KN g h h q (.inr (6, [.int 0, .int 0])) [] := KN.start hq hb
  refine ev_ald0 1 dX3_init_0 rfl ?_
  refine tj_iconst 2 dX3_init_1 rfl ?_
  refine ev_mono (mc := 0 + 0) (ms := 0 + 0) (Nat.le_of_ble_eq_true rfl) (Nat.le_of_ble_eq_true rfl) ?_
  refine kv_init 5 lki_X3_1 (k_X4_init_6 K.1.1 K.1.2.1) (by decide) rfl rfl (Nat.le_of_ble_eq_true rfl) dX3_init_2 rfl (fun h1 K2 => ?_)
  have K : KN g h h1 q (.inr (6, [.int (J (0)), .int 0])) ([]) := K.trq K2
  refine ev_ald0 6 dX3_init_5 rfl ?_
  refine ev_ild1 7 dX3_init_6 rfl ?_
  refine kv_putfin 10 1 .int fl_X3_7_6 fp_6_1 rfl (fun q hq => by cases hq; rfl) K rfl rfl (Nat.le_of_ble_eq_true rfl) dX3_init_7 rfl rfl (fun h2 (K : KN g h h2 q (.inr (6, [.int (J (0)), .int (J p1)])) ([])) => ?_)
  exact ev_vreturn ⟨rfl, K⟩ rfl dX3_init_10
set_option maxRecDepth 100000 in
set_option maxHeartbeats 4000000 in
theorem k_X5_init {g : Gt} {h : AH} {q : Nat} {p1 p2 : Int} (hq : h q = some (.inr (7, [.int 0, .int 0, .int 0]))) (hb : gB g ≤ q) : Cn g M_X5_init 4 [.ref q, .int (J p1), .int (J p2)] h 0 0 (NQ (fun h' => KN g h h' q (.inr (7, [.int (J (0)), .int (J p1), .int (J p2)])) ([]))) := by
  refine cn_of_ev rfl rfl (ls := [some (.ref q), some (.int (J p1)), some (.int (J p2))]) rfl (Nat.le_of_ble_eq_true rfl) ?_
  have K : KN g h h q (.inr (7, [.int 0, .int 0, .int 0])) [] := KN.start hq hb
  refine ev_ald0 1 dX5_init_0 rfl ?_
  refine tj_iconst 2 dX5_init_1 rfl ?_
  refine ev_mono (mc := 0 + 0) (ms := 0 + 0) (Nat.le_of_ble_eq_true rfl) (Nat.le_of_ble_eq_true rfl) ?_
  refine kv_init 5 lki_X5_1 (k_X4_init_7 K.1.1 K.1.2.1) (by decide) rfl rfl (Nat.le_of_ble_eq_true rfl) dX5_init_2 rfl (fun h1 K2 => ?_)
  have K : KN g h h1 q (.inr (7, [.int (J (0)), .int 0, .int 0])) ([]) := K.trq K2
  refine ev_ald0 6 dX5_init_5 rfl ?_
  refine ev_ild1 7 dX5_init_6 rfl ?_
  refine kv_putfin 10 1 .int fl_X5_7_7 fp_7_1 rfl (fun q hq => by cases hq; rfl) K rfl rfl (Nat.le_of_ble_eq_true rfl) dX5_init_7 rfl rfl (fun h2 (K : KN g h h2 q (.inr (7, [.int (J (0)), .int (J p1), .int 0])) ([])) => ?_)
  refine ev_ald0 11 dX5_init_10 rfl ?_
  refine ev_ild2 12 dX5_init_11 rfl ?_
  refine kv_putfin 15 2 .int fl_X5_13_7 fp_7_2 rfl (fun q hq => by cases hq; rfl) K rfl rfl (Nat.le_of_ble_eq_true rfl) dX5_init_12 rfl rfl (fun h3 (K : KN g h h3 q (.inr (7, [.int (J (0)), .int (J p1), .int (J p2)])) ([])) => ?_)
  exact ev_vreturn ⟨rfl, K⟩ rfl dX5_init_15
set_option maxRecDepth 100000 in
set_option maxHeartbeats 4000000 in
theorem k_X6_init {g : Gt} {h : AH} {q : Nat} {p1 p2 : Int} (hq : h q = some (.inr (8, [.int 0, .int 0]))) (hb : gB g ≤ q) : Cn g M_X6_init 4 [.ref q, .int (J p1), .int (J p2)] h 0 0 (NQ (fun h' => KN g h h' q (.inr (8, [.int (J p1), .int (J p2)])) ([]))) := by
  refine cn_of_ev rfl rfl (ls := [some (.ref q), some (.int (J p1)), some (.int (J p2))]) rfl (Nat.le_of_ble_eq_true rfl) ?_
  have K : KN g h h q (.inr (8, [.int 0, .int 0])) [] := KN.start hq hb
  refine ev_ald0 1 dX6_init_0 rfl ?_
  refine ev_ild1 2 dX6_init_1 rfl ?_
  refine ev_mono (mc := 0 + 0) (ms := 0 + 0) (Nat.le_of_ble_eq_true rfl) (Nat.le_of_ble_eq_true rfl) ?_
  refine kv_init 5 lki_X6_1 (k_X4_init_8 K.1.1 K.1.2.1) (by decide) rfl rfl (Nat.le_of_ble_eq_true rfl) dX6_init_2 rfl (fun h1 K2 => ?_)
  have K : KN g h h1 q (.inr (8, [.int (J p1), .int 0])) ([]) := K.trq K2
  refine ev_ald0 6 dX6_init_5 rfl ?_
  refine ev_ild2 7 dX6_init_6 rfl ?_
  refine kv_putfin 10 1 .int fl_X6_7_8 fp_8_1 rfl (fun q hq => by cases hq; rfl) K rfl rfl (Nat.le_of_ble_eq_true rfl) dX6_init_7 rfl rfl (fun h2 (K : KN g h h2 q (.inr (8, [.int (J p1), .int (J p2)])) ([])) => ?_)
  exact ev_vreturn ⟨rfl, K⟩ rfl dX6_init_10
set_option maxRecDepth 100000 in
set_option maxHeartbeats 4000000 in
theorem k_X9_init {g : Gt} {h : AH} {q : Nat} {p1 : Int} (hq : h q = some (.inr (11, [.int 0, .int 0]))) (hb : gB g ≤ q) : Cn g M_X9_init 4 [.ref q, .int (J p1)] h 0 0 (NQ (fun h' => KN g h h' q (.inr (11, [.int (J (0)), .int (J p1)])) ([]))) := by
  refine cn_of_ev rfl rfl (ls := [some (.ref q), some (.int (J p1))]) rfl (Nat.le_of_ble_eq_true rfl) ?_
  have K : KN g h h q (.inr (11, [.int 0, .int 0])) [] := KN.start hq hb
  refine ev_ald0 1 dX9_init_0 rfl ?_
  refine tj_iconst 2 dX9_init_1 rfl ?_
  refine ev_mono (mc := 0 + 0) (ms := 0 + 0) (Nat.le_of_ble_eq_true rfl) (Nat.le_of_ble_eq_true rfl) ?_
  refine kv_init 5 lki_X9_1 (k_X4_init_11 K.1.1 K.1.2.1) (by decide) rfl rfl (Nat.le_of_ble_eq_true rfl) dX9_init_2 rfl (fun h1 K2 => ?_)
  have K : KN g h h1 q (.inr (11, [.int (J (0)), .int 0])) ([]) := K.trq K2
  refine ev_ald0 6 dX9_init_5 rfl ?_
  refine ev_ild1 7 dX9_init_6 rfl ?_
  refine kv_putfin 10 1 .int fl_X9_7_11 fp_11_1 rfl (fun q hq => by cases hq; rfl) K rfl rfl (Nat.le_of_ble_eq_true rfl) dX9_init_7 rfl rfl (fun h2 (K : KN g h h2 q (.inr (11, [.int (J (0)), .int (J p1)])) ([])) => ?_)
  exact ev_vreturn ⟨rfl, K⟩ rfl dX9_init_10
