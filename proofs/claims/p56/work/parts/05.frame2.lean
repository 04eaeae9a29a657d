section EVM
variable {g : Gt} {M M2 : Mt} {d d1 pc : Nat} {ls : List (Option Value)} {st st0 : List Value} {h : AH} {mc ms mc1 ms1 : Nat} {Q Q1 : RT → AH → Prop}
theorem ra_same {s : State} {ki : Nat} {cA : ClassId} {ty : FieldType} (hC : CTX g s) (hk : (gT g)[ki]? = some (gA g ki, ty)) (hK : va_K (gD g) vwCl (gT g ++ [(cA, ty)]) s) : cA = gA g ki := by
  have e1 := (hC.1.1.2 ki _ hk).2
  have e2 := (hK.2 (gT g).length (cA, ty) (by simp)).2
  cases ty with
  | object C =>
    obtain ⟨_, _, _, _, _, h1⟩ := e1
    obtain ⟨_, _, _, _, _, h2⟩ := e2
    exact Option.some.inj (h2.symm.trans h1)
  | _ => exact Option.some.inj (Eq.trans (Eq.symm e2) e1)
theorem ev_newarray {z : Int32} {N' ki : Nat} {at_ : ArrayType} {ty : FieldType} {a0 : vp_A} (n : Nat) (hd : decode (mC M) pc = .ok (.newarray at_, 2)) (hty : newarray.typeOf at_ = ty) (hki : (gT g)[ki]? = some (gA g ki, ty)) (hw : Cond.arrayClass ty ∈ lw_tbl) (ha : ∀ cA : ClassId, vp_cell cA a0 = arrV cA N' (fun _ => defaultValue ty)) (hz : ¬ z < 0) (hN : z.toNatClampNeg = N') (hsz : N' * componentBytes ty ≤ 536870912) (hn : pc + 2 = n) (kk : ∀ q, h q = none → gB g ≤ q → Ev g M d n ls (.ref q :: st) (hup h q (.inl (ki, a0))) mc ms Q) : Ev g M d pc ls (.int z :: st) h (mc + 1) (ms + N') Q := by
  subst hn
  intro p e s m args below meth c H locs cells slots lsA tc ts hM hS hL h1 h2
  have hC := hM.2.2.2.2.2.2.2.2
  refine va_newa (D := gD g) (cl := vwCl) (tys := gT g) hM.1 hM.2.1 (by rw [hty]; exact AW.at hC hw rfl) hty hC.1.1 (wsH_P hS.1) (wsH_D g h H.size) hS.2 (fun q hq => Nat.le_trans hC.2.1 hq) ha hz hN hsz (show cells + 1 ≤ tc by omega) (show slots + N' ≤ ts by omega) hd (fun q cA H1 hK1 hP1 hD1 hS1 => ?_)
  have e := ra_same hC hki hK1
  subst e
  obtain ⟨g1, g2, g3⟩ := hS.1.new (c := .inl (ki, a0)) hC.2.1 hS.2 hS1 rfl hP1 hD1
  exact kk q g1 g2 p e s m args below meth c H1 locs (cells + 1) (slots + N') lsA tc ts hM ⟨g3, hS1⟩ hL (by omega) (by omega)
theorem ev_newobjs {z : Int32} {N' index : Nat} (n : Nat) (hd : decode (mC M) pc = .ok (.anewarray index, 3)) (hl : Cond.classLink (mY M).cls index "java/lang/Object" ∈ lw_tbl) (hz : ¬ z < 0) (hN : z.toNatClampNeg = N') (hsz : N' * 4 ≤ 536870912) (hn : pc + 3 = n) (kk : ∀ q, h q = none → gB g ≤ q → Ev g M d n ls (.ref q :: st) (hup h q (.inl (3, N', .inr (.inr (.inr (.inr (fun _ => none))))))) mc ms Q) : Ev g M d pc ls (.int z :: st) h (mc + 1) (ms + N') Q := by
  subst hn
  intro p e s m args below meth c H locs cells slots lsA tc ts hM hS hL h1 h2
  have hC := hM.2.2.2.2.2.2.2.2
  refine va_newq (D := gD g) (cl := vwCl) (tys := gT g) hM.1 hM.2.1 hM.2.2.2.1 (AW.at hC hl rfl) hC.1.2.2.2.2.2.2.2.2.2.2.1 hC.1.1 (wsH_P hS.1) (wsH_D g h H.size) hS.2 (fun q hq => Nat.le_trans hC.2.1 hq) hz hN hsz (show cells + 1 ≤ tc by omega) (show slots + N' ≤ ts by omega) hd (fun q cA H1 hK1 hP1 hD1 hS1 => ?_)
  have e := ra_same (ki := 3) hC rfl hK1
  subst e
  obtain ⟨g1, g2, g3⟩ := hS.1.new (c := .inl (3, N', .inr (.inr (.inr (.inr (fun _ => none)))))) hC.2.1 hS.2 hS1 rfl hP1 hD1
  exact kk q g1 g2 p e s m args below meth c H1 locs (cells + 1) (slots + N') lsA tc ts hM ⟨g3, hS1⟩ hL (by omega) (by omega)
/-- a cast to the object's own class -/
theorem ev_castS {index a ci : Nat} {fs : List Value} {nm : String} (n : Nat) (hd : decode (mC M) pc = .ok (.checkcast index, 3)) (hl : Cond.classLink (mY M).cls index nm ∈ lw_tbl) (ha : h a = some (.inr (ci, fs))) (hci : vwCl[ci]?.map (·.1) = some nm) (hn : pc + 3 = n) (kk : Ev g M d n ls (.ref a :: st) h mc ms Q) : Ev g M d pc ls (.ref a :: st) h mc ms Q := by
  subst hn
  intro p e s m args below meth c H locs cells slots lsA tc ts hM hS hL h1 h2
  have hC := hM.2.2.2.2.2.2.2.2
  obtain ⟨q, hq1, hq2⟩ := Option.map_eq_some_iff.mp hci
  obtain ⟨C, T, N⟩ := q
  have hq2 : C = nm := hq2
  subst hq2
  exact va_castS hM.1 hM.2.1 hM.2.2.2.1 (AW.at hC hl rfl) (hC.1.1.1 ci _ hq1).2 (recv_at hC hS ha hq1) hd (kk p e s m args below meth c H locs cells slots lsA tc ts hM hS hL h1 h2)
/-- a cast to a class above it -/
theorem ev_castY {index a ci : Nat} {fs : List Value} {nm C : String} (n : Nat) (hd : decode (mC M) pc = .ok (.checkcast index, 3)) (hl : Cond.classLink (mY M).cls index nm ∈ lw_tbl) (hca : Cond.castable C nm ∈ lw_tbl) (ha : h a = some (.inr (ci, fs))) (hci : vwCl[ci]?.map (·.1) = some C) (hn : pc + 3 = n) (kk : Ev g M d n ls (.ref a :: st) h mc ms Q) : Ev g M d pc ls (.ref a :: st) h mc ms Q := by
  subst hn
  intro p e s m args below meth c H locs cells slots lsA tc ts hM hS hL h1 h2
  have hC := hM.2.2.2.2.2.2.2.2
  obtain ⟨q, hq1, hq2⟩ := Option.map_eq_some_iff.mp hci
  obtain ⟨C9, T, N⟩ := q
  have hq2 : C9 = C := hq2
  subst hq2
  exact va_castY hM.1 hM.2.1 hM.2.2.2.1 (AW.at hC hl rfl) (AW.at hC hca rfl) (recv_at hC hS ha hq1) hd (kk p e s m args below meth c H locs cells slots lsA tc ts hM hS hL h1 h2)
theorem ev_objInit {index a : Nat} (n : Nat) (hd : decode (mC M) pc = .ok (.invokespecial index, 3)) (hl : Cond.methodLink (mY M).cls index Lib.objectInit ∈ lw_tbl) (hi : Cond.instanceMethod Lib.objectInit ∈ lw_tbl) (hc : Cond.code Lib.objectInit ⟨#[0xb1]⟩ 1 none ∈ lw_tbl) (hdd : 1 ≤ d) (hcat : (st.map fun v => v.category).sum + 14 ≤ 46 * d) (hn : pc + 3 = n) (kk : Ev g M d n ls st h mc ms Q) : Ev g M d pc ls (.ref a :: st) h mc ms Q := by
  subst hn
  intro p e s m args below meth c H locs cells slots lsA tc ts hM hS hL h1 h2
  have hC := hM.2.2.2.2.2.2.2.2
  refine W.objInit hM.1 hM.2.1 hM.2.2.2.1 (AW.at hC hl rfl) (AW.at hC hi rfl) (AW.at hC hc rfl) rfl (hL.1.trans hM.2.2.2.2.1.symm) rfl hd hdd (by show _ ≤ 46 * d; simp [F0]; omega) ?_
  exact kk p e s m args below meth c H locs cells slots lsA tc ts hM hS hL h1 h2
theorem ev_mmax {index : Nat} {x y : Int32} (n : Nat) (hd : decode (mC M) pc = .ok (.invokestatic index, 3)) (hl : Cond.methodLink (mY M).cls index Lib.Math.max.name ∈ lw_tbl) (hw : Cond.static Lib.Math.max.name ∈ lw_tbl ∧ Cond.initialized "java/lang/Math" ∈ lw_tbl ∧ Cond.code Lib.Math.max.name Lib.Math.max.code 2 (some .int) ∈ lw_tbl) (hdd : 1 ≤ d) (hcat : (st.map fun v => v.category).sum + 13 ≤ 46 * d) (hn : pc + 3 = n) (kk : Ev g M d n ls (.int (if x < y then y else x) :: st) h mc ms Q) : Ev g M d pc ls (.int y :: .int x :: st) h mc ms Q := by
  subst hn
  intro p e s m args below meth c H locs cells slots lsA tc ts hM hS hL h1 h2
  have hC := hM.2.2.2.2.2.2.2.2
  exact va_mmax hM.1 hM.2.1 (hM.2.2.2.2.1.trans hL.1.symm) hM.2.2.2.1 (AW.at hC hl rfl) (AW.at hC hw.1 rfl) (AW.at hC hw.2.1 rfl) (AW.at hC hw.2.2 rfl) hdd hcat (show cells ≤ tc by omega) (show slots ≤ ts by omega) hd (kk p e s m args below meth c H locs cells slots lsA tc ts hM hS hL h1 h2)
theorem ev_mmin {index : Nat} {x y : Int32} (n : Nat) (hd : decode (mC M) pc = .ok (.invokestatic index, 3)) (hl : Cond.methodLink (mY M).cls index Lib.Math.min.name ∈ lw_tbl) (hw : Cond.static Lib.Math.min.name ∈ lw_tbl ∧ Cond.initialized "java/lang/Math" ∈ lw_tbl ∧ Cond.code Lib.Math.min.name Lib.Math.min.code 2 (some .int) ∈ lw_tbl) (hdd : 1 ≤ d) (hcat : (st.map fun v => v.category).sum + 13 ≤ 46 * d) (hn : pc + 3 = n) (kk : Ev g M d n ls (.int (if y < x then y else x) :: st) h mc ms Q) : Ev g M d pc ls (.int y :: .int x :: st) h mc ms Q := by
  subst hn
  intro p e s m args below meth c H locs cells slots lsA tc ts hM hS hL h1 h2
  have hC := hM.2.2.2.2.2.2.2.2
  exact va_mmin hM.1 hM.2.1 (hM.2.2.2.2.1.trans hL.1.symm) hM.2.2.2.1 (AW.at hC hl rfl) (AW.at hC hw.1 rfl) (AW.at hC hw.2.1 rfl) (AW.at hC hw.2.2 rfl) hdd hcat (show cells ≤ tc by omega) (show slots ≤ ts by omega) hd (kk p e s m args below meth c H locs cells slots lsA tc ts hM hS hL h1 h2)
/-- the list's empty array: read as a static, and its length -/
theorem ev_getEm {index : Nat} (n : Nat) (hd : decode (mC M) pc = .ok (.getstatic index, 3)) (hl : Cond.fieldLink (mY M).cls index "java/util/ArrayList" "DEFAULTCAPACITY_EMPTY_ELEMENTDATA" "[Ljava/lang/Object;" ∈ lw_tbl) (hn : pc + 3 = n) (kk : Ev g M d n ls (.ref (gE g) :: st) h mc ms Q) : Ev g M d pc ls st h mc ms Q := by
  subst hn
  intro p e s m args below meth c H locs cells slots lsA tc ts hM hS hL h1 h2
  have hC := hM.2.2.2.2.2.2.2.2
  exact va_gets hM.1 hM.2.1 hC.1.2.2.2.2.2.2.1 hS.2 hM.2.2.2.1 (AW.at hC hl rfl) (fun _ z => z) hd (kk p e s m args below meth c H locs cells slots lsA tc ts hM hS hL h1 h2)
theorem ev_alenEm (n : Nat) (hd : decode (mC M) pc = .ok (.arraylength, 1)) (hn : pc + 1 = n) (kk : Ev g M d n ls (.int 0 :: st) h mc ms Q) : Ev g M d pc ls (.ref (gE g) :: st) h mc ms Q := by
  subst hn
  intro p e s m args below meth c H locs cells slots lsA tc ts hM hS hL h1 h2
  have hC := hM.2.2.2.2.2.2.2.2
  obtain ⟨cell, t1, t2, t3, t4, t5, t6, t7⟩ := hC.1.2.2.2.2.2.2.2.1
  exact W.alen (n := 0) hM.1 hM.2.1 (by rw [hS.2.2.1 _ (Array.getElem?_eq_some_iff.mp t1).1 t7]; exact t1) t2 t5 rfl rfl hd (kk p e s m args below meth c H locs cells slots lsA tc ts hM hS hL h1 h2)
/-- references out of arrays, into arrays -/
theorem ev_aaloadO {a len : Nat} {f : Nat → Option Nat} {i : Int32} (n : Nat) (hd : decode (mC M) pc = .ok (.aaload, 1)) (ha : h a = some (.inl (3, len, .inr (.inr (.inr (.inr f)))))) (hin : vp_in i len) (hn : pc + 1 = n) (kk : Ev g M d n ls (va_rf (f i.toNatClampNeg) :: st) h mc ms Q) : Ev g M d pc ls (.int i :: .ref a :: st) h mc ms Q := by
  subst hn
  intro p e s m args below meth c H locs cells slots lsA tc ts hM hS hL h1 h2
  exact va_aldq hM.1 hM.2.1 hM.2.2.2.2.2.2.2.2.1.1 (hS.1.one ha) 0 3 rfl rfl hin hd (kk p e s m args below meth c H locs cells slots lsA tc ts hM hS hL h1 h2)
theorem ev_aaloadR {a len : Nat} {f : Nat → Option Nat} {i : Int32} (n : Nat) (hd : decode (mC M) pc = .ok (.aaload, 1)) (ha : h a = some (.inl (4, len, .inr (.inr (.inr (.inr f)))))) (hin : vp_in i len) (hn : pc + 1 = n) (kk : Ev g M d n ls (va_rf (f i.toNatClampNeg) :: st) h mc ms Q) : Ev g M d pc ls (.int i :: .ref a :: st) h mc ms Q := by
  subst hn
  intro p e s m args below meth c H locs cells slots lsA tc ts hM hS hL h1 h2
  have hlt : i.toNatClampNeg < len := Nat.not_le.mp fun q => hin (Or.inr q)
  exact W.aald (v := va_rf (f i.toNatClampNeg)) (ty := .array .int) hM.1 hM.2.1 (hS.1.one ha 0 _ rfl) ((hM.2.2.2.2.2.2.2.2.1.1.2 4 _ rfl).1 len (fun j => va_rf (f j))) rfl (fun q => by cases q) (by show ¬ (i < 0 ∨ (arrV _ _ _).slots.size ≤ _); rw [arrV_size]; exact hin) (by show (arrV _ _ _).slots[_]? = _; rw [arrV_read _ _ hlt]) rfl rfl hd (kk p e s m args below meth c H locs cells slots lsA tc ts hM hS hL h1 h2)
theorem any_at {v ci : Nat} {vs : List Value} {C : String} {s : State} {H : Heap} {locs : List Loc} (hC : CTX g s) (hS : SX g h s H locs) (hv : h v = some (.inr (ci, vs))) (hci : vwCl[ci]?.map (·.1) = some C) (hca : Cond.castable C "java/lang/Object" ∈ lw_tbl) : va_Any "java/lang/Object" s H v := by
  obtain ⟨q, hq1, hq2⟩ := Option.map_eq_some_iff.mp hci
  exact va_rAny hC.1.1 (hS.1.one hv) (q0 := 0) rfl hq1 (fun comp c0 e1 e2 => by rw [hq2] at e2; exact vb_asgC (C := C) (E := "java/lang/Object") (AW.at hC hca rfl) comp c0 e1 e2)
theorem ev_aastoreO {a len v ci : Nat} {vs : List Value} {f : Nat → Option Nat} {i : Int32} {C : String} (n : Nat) (hd : decode (mC M) pc = .ok (.aastore, 1)) (ha : h a = some (.inl (3, len, .inr (.inr (.inr (.inr f)))))) (hb : gB g ≤ a) (hv : h v = some (.inr (ci, vs))) (hci : vwCl[ci]?.map (·.1) = some C) (hca : Cond.castable C "java/lang/Object" ∈ lw_tbl) (hin : vp_in i len) (hn : pc + 1 = n) (kk : Ev g M d n ls st (hup h a (.inl (3, len, .inr (.inr (.inr (.inr (va_up f i.toNatClampNeg (some v)))))))) mc ms Q) : Ev g M d pc ls (.ref v :: .int i :: .ref a :: st) h mc ms Q := by
  subst hn
  intro p e s m args below meth c H locs cells slots lsA tc ts hM hS hL h1 h2
  have hC := hM.2.2.2.2.2.2.2.2
  obtain ⟨q0, hq0⟩ := List.getElem?_of_mem (wsH_in hS.1 ha hb)
  refine va_astqM hM.1 hM.2.1 hC.1.1 (wsH_P hS.1) (wsH_D g h H.size) hS.2 q0 3 hq0 rfl (any_at hC hS hv hci hca) hin hd (fun H1 locs1 hP1 hD1 hS1 => ?_)
  exact kk p e s m args below meth c H1 locs1 cells slots lsA tc ts hM ⟨hS.1.set hC.2.1 hS.2 hS1 hq0 rfl hP1, hS1⟩ hL h1 h2
theorem ev_aastoreN {a len : Nat} {f : Nat → Option Nat} {i : Int32} (n : Nat) (hd : decode (mC M) pc = .ok (.aastore, 1)) (ha : h a = some (.inl (3, len, .inr (.inr (.inr (.inr f)))))) (hb : gB g ≤ a) (hin : vp_in i len) (hn : pc + 1 = n) (kk : Ev g M d n ls st (hup h a (.inl (3, len, .inr (.inr (.inr (.inr (va_up f i.toNatClampNeg none))))))) mc ms Q) : Ev g M d pc ls (.null :: .int i :: .ref a :: st) h mc ms Q := by
  subst hn
  intro p e s m args below meth c H locs cells slots lsA tc ts hM hS hL h1 h2
  have hC := hM.2.2.2.2.2.2.2.2
  obtain ⟨q0, hq0⟩ := List.getElem?_of_mem (wsH_in hS.1 ha hb)
  refine va_astqN hM.1 hM.2.1 hC.1.1 (wsH_P hS.1) (wsH_D g h H.size) hS.2 q0 3 hq0 rfl hin hd (fun H1 locs1 hP1 hD1 hS1 => ?_)
  exact kk p e s m args below meth c H1 locs1 cells slots lsA tc ts hM ⟨hS.1.set hC.2.1 hS.2 hS1 hq0 rfl hP1, hS1⟩ hL h1 h2
end EVM
section EVN
variable {g : Gt} {M M2 : Mt} {d d1 pc : Nat} {ls : List (Option Value)} {st st0 : List Value} {h : AH} {mc ms mc1 ms1 : Nat} {Q Q1 : RT → AH → Prop}
theorem ev_null (n : Nat) (hd : decode (mC M) pc = .ok (.aconst_null, 1)) (hn : pc + 1 = n) (kk : Ev g M d n ls (.null :: st) h mc ms Q) : Ev g M d pc ls st h mc ms Q := by
  subst hn
  intro p e s m args below meth c H locs cells slots lsA tc ts hM hS hL h1 h2
  exact lv_null hM.1 hM.2.1 hd (kk p e s m args below meth c H locs cells slots lsA tc ts hM hS hL h1 h2)
def LKn (own : String) (index : Nat) (M2 : Mt) (n : Nat) (host : String) : Prop := mH M2 = [] ∧ Cond.methodLinkNest own index (mY M2) host ∈ lw_tbl ∧ Cond.code (mY M2) (mC M2) (mL M2) (mR M2) ∈ lw_tbl ∧ Cond.initialized (mY M2).cls ∈ lw_tbl ∧ mL M2 ≤ 27 ∧
  ((mY M2).cls ≠ "java/lang/invoke/MethodHandle" ∧ (mY M2).cls ≠ "java/lang/invoke/VarHandle" ∧ (parseMethodDescriptor (mY M2).desc).map (fun d => d.parameters.length) = some n)
theorem lk_CN {own host : String} {index n : Nat} {s : State} {args : Array Value} {R : Room} (hC : CTX g s) (L : LKn own index M2 n host) (hR : d1 + 1 ≤ R.frames ∧ 8 + (mL M2 + 11) + 46 * d1 ≤ R.locals) : va_CN R s args own index (mY M2) host (mC M2) (mL M2) (mR M2) (mWs M2) (rmD d1 mc1 ms1) mc1 ms1 n := by
  obtain ⟨l1, l2, l3, l4, l5, l6⟩ := L
  have e := mW_code l1
  refine ⟨⟨rfl, rfl, hR.1, hR.2, ?_, by rw [e]; exact List.mem_cons_self⟩, AW.at hC l3 rfl, AW.at hC l4 rfl, ⟨l6.1, l6.2.1⟩, fun sig hs => ?_, AW.at hC l2 rfl⟩
  · intro w hw a' U hW
    rw [e] at hw
    rw [List.mem_singleton.mp hw]
    exact word_at hW (good_of_word rfl) (AW.at (A := args) hC l3 rfl)
  · have h2 := l6.2.2
    rw [hs] at h2
    exact (Option.some.inj h2).symm
theorem ev_callSN {index k : Nat} {host : String} {As : List Value} (n : Nat) (L : LKn (mY M).cls index M2 k host) (hst0 : Cond.static (mY M2) ∈ lw_tbl) (hc : Cn g M2 d1 As h mc1 ms1 Q1) (hd1 : d1 < d) (hk : As.length = k) (hst : st0 = As.reverse ++ st) (hcat : (st.map fun v => v.category).sum ≤ 8) (hd : decode (mC M) pc = .ok (.invokestatic index, 3)) (hn : pc + 3 = n)
    (kr : ∀ v h', Q1 (.inl v) h' → Ev g M d n ls (v.toList ++ st) h' mc ms Q) (kx : ∀ E h', Q1 (.inr E) h' → Xv g M d pc ls E h' mc ms Q) : Ev g M d pc ls st0 h (mc1 + mc) (ms1 + ms) Q := by
  subst hst
  refine ev_of_vrun (As := As.toArray) n (fun p e s m args below meth c H locs cells slots lsA tc ts hM hS hL h1 h2 => ?_) hn kr kx
  have hC := hM.2.2.2.2.2.2.2.2
  exact vrun_of_run (va_runSN (Ts := [Cond.code (mY M2) (mC M2) (mL M2) (mR M2)]) (n := k) ⟨hM.1, hM.2.1, hM.2.2.2.2.1, hM.2.2.2.1, fun w hw => by rw [List.mem_singleton.mp hw]; exact AW.at hC L.2.2.1 rfl⟩ hc ⟨lk_CN hC L (rm_le hd1 L.2.2.2.2.1 tc ts), AW.at hC hst0 rfl, trivial⟩ ⟨ct_blind, fun U hU hW => ct_at hC hS hU hW⟩ rfl hk hL.1 rfl (lv_room hcat) hd ⟨by show cells + mc1 ≤ tc; omega, by show slots + ms1 ≤ ts; omega⟩)
theorem ev_callIN {index b k : Nat} {host : String} {As : List Value} (n : Nat) (L : LKn (mY M).cls index M2 k host) (hin : Cond.instanceMethod (mY M2) ∈ lw_tbl ∧ (mY M2).name = "<init>" ∧ mR M2 = none) (hc : Cn g M2 d1 (.ref b :: As) h mc1 ms1 Q1) (hd1 : d1 < d) (hk : As.length = k) (hst : st0 = As.reverse ++ .ref b :: st) (hcat : (st.map fun v => v.category).sum ≤ 8) (hd : decode (mC M) pc = .ok (.invokespecial index, 3)) (hn : pc + 3 = n)
    (kr : ∀ v h', Q1 (.inl v) h' → Ev g M d n ls (v.toList ++ st) h' mc ms Q) (kx : ∀ E h', Q1 (.inr E) h' → Xv g M d pc ls E h' mc ms Q) : Ev g M d pc ls st0 h (mc1 + mc) (ms1 + ms) Q := by
  subst hst
  refine ev_of_vrun (As := (Value.ref b :: As).toArray) n (fun p e s m args below meth c H locs cells slots lsA tc ts hM hS hL h1 h2 => ?_) hn kr kx
  have hC := hM.2.2.2.2.2.2.2.2
  have hcb := lk_CN (args := args) (R := rmD d tc ts) (mc1 := mc1) (ms1 := ms1) hC L (rm_le hd1 L.2.2.2.2.1 tc ts)
  rw [hin.2.2] at hcb
  exact vrun_of_run (va_runIN (Ts := [Cond.code (mY M2) (mC M2) (mL M2) (mR M2)]) (n := k) ⟨hM.1, hM.2.1, hM.2.2.2.2.1, hM.2.2.2.1, fun w hw => by rw [List.mem_singleton.mp hw]; exact AW.at hC L.2.2.1 rfl⟩ hc ⟨hcb, hin.2.1, AW.at hC hin.1 rfl⟩ ⟨ct_blind, fun U hU hW => ct_at hC hS hU hW⟩ rfl hk hL.1 rfl (lv_room hcat) hd ⟨by show cells + mc1 ≤ tc; omega, by show slots + ms1 ≤ ts; omega⟩)
/-- a call of an abstract or inherited method x, which the receiver's class C answers by M2 -/
def LKu (own C : String) (index : Nat) (x : MethodName) (M2 : Mt) (n : Nat) : Prop := mH M2 = [] ∧ Cond.methodLink own index x ∈ lw_tbl ∧ Cond.code (mY M2) (mC M2) (mL M2) (mR M2) ∈ lw_tbl ∧ Cond.initialized (mY M2).cls ∈ lw_tbl ∧ mL M2 ≤ 27 ∧
  (x.cls ≠ "java/lang/invoke/MethodHandle" ∧ x.cls ≠ "java/lang/invoke/VarHandle" ∧ (parseMethodDescriptor x.desc).map (fun d => d.parameters.length) = some n) ∧ Cond.sameMethod x.cls x.cls x.name x.desc ∈ lw_tbl ∧ Cond.selects C x (mY M2) ∈ lw_tbl ∧ Cond.instanceMethod (mY M2) ∈ lw_tbl
theorem ev_callU {index b k ci : Nat} {C : String} {x : MethodName} {As fs : List Value} (n : Nat) (L : LKu (mY M).cls C index x M2 k) (hdecl : ∀ s : State, CTX g s → va_Decl s x) (hc : Cn g M2 d1 (.ref b :: As) h mc1 ms1 Q1) (hd1 : d1 < d) (hb : h b = some (.inr (ci, fs))) (hci : vwCl[ci]?.map (·.1) = some C) (hk : As.length = k) (hst : st0 = As.reverse ++ .ref b :: st) (hcat : (st.map fun v => v.category).sum ≤ 8) (hd : decode (mC M) pc = .ok (.invokevirtual index, 3)) (hn : pc + 3 = n)
    (kr : ∀ v h', Q1 (.inl v) h' → Ev g M d n ls (v.toList ++ st) h' mc ms Q) (kx : ∀ E h', Q1 (.inr E) h' → Xv g M d pc ls E h' mc ms Q) : Ev g M d pc ls st0 h (mc1 + mc) (ms1 + ms) Q := by
  subst hst
  refine ev_of_vrun (As := (Value.ref b :: As).toArray) n (fun p e s m args below meth c H locs cells slots lsA tc ts hM hS hL h1 h2 => ?_) hn kr kx
  have hC := hM.2.2.2.2.2.2.2.2
  obtain ⟨q, hq1, hq2⟩ := Option.map_eq_some_iff.mp hci
  obtain ⟨C9, T, N⟩ := q
  have hq2 : C9 = C := hq2
  subst hq2
  obtain ⟨l1, l2, l3, l4, l5, l6, l7, l8, l9⟩ := L
  have e := mW_code l1
  have hR := rm_le hd1 l5 tc ts
  have cw : va_CU (rmD d tc ts) s args (mY M).cls C9 x.cls index x (mY M2) (mC M2) (mL M2) (mR M2) (mWs M2) (rmD d1 mc1 ms1) mc1 ms1 k := by
    refine ⟨⟨rfl, rfl, hR.1, hR.2, ?_, by rw [e]; exact List.mem_cons_self⟩, AW.at hC l3 rfl, AW.at hC l4 rfl, ⟨l6.1, l6.2.1⟩, fun sig hs => ?_, AW.at hC l2 rfl, AW.at hC l7 rfl, hdecl s hC, AW.at hC l8 rfl, AW.at hC l9 rfl⟩
    · intro w hw a' U hW
      rw [e] at hw
      rw [List.mem_singleton.mp hw]
      exact word_at hW (good_of_word rfl) (AW.at (A := args) hC l3 rfl)
    · have h2 := l6.2.2
      rw [hs] at h2
      exact (Option.some.inj h2).symm
  exact vrun_of_run (va_runU (Ts := [Cond.code (mY M2) (mC M2) (mL M2) (mR M2)]) (C := C9) (owner := x.cls) (n := k) ⟨hM.1, hM.2.1, hM.2.2.2.2.1, hM.2.2.2.1, fun w hw => by rw [List.mem_singleton.mp hw]; exact AW.at hC l3 rfl⟩ hc cw ⟨ct_blind, recv_at hC hS hb hq1, fun U hU hW => ct_at hC hS hU hW⟩ rfl hk hL.1 rfl (lv_room hcat) hd ⟨by show cells + mc1 ≤ tc; omega, by show slots + ms1 ≤ ts; omega⟩)
/-- System.arraycopy: ints or booleans; references -/
abbrev ACw : Prop := Cond.native arraycopyName ∈ lw_tbl ∧ Cond.static arraycopyName ∈ lw_tbl ∧ Cond.initialized "java/lang/System" ∈ lw_tbl
theorem ev_copyI {index a0 a n0 n1 ki : Nat} {f f1 : Nat → Int32} {sp dp z : Int32} {ty : FieldType} (n : Nat) (hd : decode (mC M) pc = .ok (.invokestatic index, 3)) (hl : Cond.methodLink (mY M).cls index arraycopyName ∈ lw_tbl) (hw : ACw) (hki : (gT g)[ki]? = some (gA g ki, ty)) (hprim : refKind ty = false) (ha0 : h a0 = some (.inl (ki, n0, .inl f))) (ha : h a = some (.inl (ki, n1, .inl f1))) (hb0 : gB g ≤ a0) (hb : gB g ≤ a)
    (h1 : ¬ sp < 0) (h2 : ¬ dp < 0) (h3 : ¬ z < 0) (h4 : sp.toNatClampNeg + z.toNatClampNeg ≤ n0) (h5 : dp.toNatClampNeg + z.toNatClampNeg ≤ n1) (hfit : ∀ i, i < z.toNatClampNeg → fits ty (.int (f (sp.toNatClampNeg + i))) = true) (hdd : 4 ≤ d) (hcat : (st.map fun v => v.category).sum ≤ 8) (hn : pc + 3 = n)
    (kk : Ev g M d n ls st (hup h a (.inl (ki, n1, .inl (va_cpy f f1 sp.toNatClampNeg dp.toNatClampNeg z.toNatClampNeg)))) mc ms Q) : Ev g M d pc ls (.int z :: .int dp :: .ref a :: .int sp :: .ref a0 :: st) h mc ms Q := by
  subst hn
  intro p e s m args below meth c H locs cells slots lsA tc ts hM hS hL h6 h7
  have hC := hM.2.2.2.2.2.2.2.2
  obtain ⟨q0, hq0⟩ := List.getElem?_of_mem (wsH_in hS.1 ha0 hb0)
  obtain ⟨q1, hq1⟩ := List.getElem?_of_mem (wsH_in hS.1 ha hb)
  refine va_copyi hM.1 hM.2.1 (hM.2.2.2.2.1.trans hL.1.symm) hM.2.2.2.1 (AW.at hC hl rfl) (AW.at hC hw.1 rfl) (AW.at hC hw.2.1 rfl) (AW.at hC hw.2.2 rfl) hC.1.1 (wsH_P hS.1) (wsH_D g h H.size) hS.2 q0 q1 ki ki hq0 hq1 hki hki hprim h1 h2 h3 h4 h5 hfit (show 1 ≤ d by omega) (Nat.le_trans (Nat.add_le_add_right hcat _) (show 8 + (nativeFrameWords "java/lang/System" "arraycopy" 5 + 11) ≤ 46 * d from Nat.le_trans (by decide +kernel : 8 + (nativeFrameWords "java/lang/System" "arraycopy" 5 + 11) ≤ 46 * 4) (Nat.mul_le_mul_left 46 hdd))) hd ?_
  intro H1 locs1 hP1 hD1 hS1
  exact kk p e s m args below meth c H1 locs1 cells slots lsA tc ts hM ⟨hS.1.set hC.2.1 hS.2 hS1 hq1 rfl hP1, hS1⟩ hL h6 h7
theorem ev_copyO {index a0 a n0 n1 : Nat} {f f1 : Nat → Option Nat} {sp dp z : Int32} (n : Nat) (hd : decode (mC M) pc = .ok (.invokestatic index, 3)) (hl : Cond.methodLink (mY M).cls index arraycopyName ∈ lw_tbl) (hw : ACw) (ha0 : h a0 = some (.inl (3, n0, .inr (.inr (.inr (.inr f)))))) (ha : h a = some (.inl (3, n1, .inr (.inr (.inr (.inr f1)))))) (hb0 : gB g ≤ a0) (hb : gB g ≤ a)
    (h1 : ¬ sp < 0) (h2 : ¬ dp < 0) (h3 : ¬ z < 0) (h4 : sp.toNatClampNeg + z.toNatClampNeg ≤ n0) (h5 : dp.toNatClampNeg + z.toNatClampNeg ≤ n1) (hel : ∀ i : Nat, i < z.toNatClampNeg → ∀ y : Nat, f (sp.toNatClampNeg + i) = some y → ∃ ci vs C, h y = some (.inr (ci, vs)) ∧ vwCl[ci]?.map (·.1) = some C ∧ Cond.castable C "java/lang/Object" ∈ lw_tbl) (hdd : 4 ≤ d) (hcat : (st.map fun v => v.category).sum ≤ 8) (hn : pc + 3 = n)
    (kk : Ev g M d n ls st (hup h a (.inl (3, n1, .inr (.inr (.inr (.inr (va_cpy f f1 sp.toNatClampNeg dp.toNatClampNeg z.toNatClampNeg))))))) mc ms Q) : Ev g M d pc ls (.int z :: .int dp :: .ref a :: .int sp :: .ref a0 :: st) h mc ms Q := by
  subst hn
  intro p e s m args below meth c H locs cells slots lsA tc ts hM hS hL h6 h7
  have hC := hM.2.2.2.2.2.2.2.2
  obtain ⟨q0, hq0⟩ := List.getElem?_of_mem (wsH_in hS.1 ha0 hb0)
  obtain ⟨q1, hq1⟩ := List.getElem?_of_mem (wsH_in hS.1 ha hb)
  refine va_copyM hM.1 hM.2.1 (hM.2.2.2.2.1.trans hL.1.symm) hM.2.2.2.1 (AW.at hC hl rfl) (AW.at hC hw.1 rfl) (AW.at hC hw.2.1 rfl) (AW.at hC hw.2.2 rfl) hC.1.1 (wsH_P hS.1) (wsH_D g h H.size) hS.2 q0 q1 3 3 hq0 hq1 rfl rfl h1 h2 h3 h4 h5 (fun i hi y hy => by obtain ⟨ci, vs, C, e1, e2, e3⟩ := hel i hi y hy; exact any_at hC hS e1 e2 e3) (show 1 ≤ d by omega) (Nat.le_trans (Nat.add_le_add_right hcat _) (show 8 + (nativeFrameWords "java/lang/System" "arraycopy" 5 + 11) ≤ 46 * d from Nat.le_trans (by decide +kernel : 8 + (nativeFrameWords "java/lang/System" "arraycopy" 5 + 11) ≤ 46 * 4) (Nat.mul_le_mul_left 46 hdd))) hd ?_
  intro H1 locs1 hP1 hD1 hS1
  exact kk p e s m args below meth c H1 locs1 cells slots lsA tc ts hM ⟨hS.1.set hC.2.1 hS.2 hS1 hq1 rfl hP1, hS1⟩ hL h6 h7
/-- the class of an Object[], as a constant and by getClass -/
theorem ev_ldcM {index : Nat} (n : Nat) (hd : decode (mC M) pc = .ok (.ldc index, 2)) (hl : Cond.classLink (mY M).cls index "[Ljava/lang/Object;" ∈ lw_tbl) (hn : pc + 2 = n) (kk : Ev g M d n ls (.ref (gM g) :: st) h mc ms Q) : Ev g M d pc ls st h mc ms Q := by
  subst hn
  intro p e s m args below meth c H locs cells slots lsA tc ts hM hS hL h1 h2
  have hC := hM.2.2.2.2.2.2.2.2
  exact va_ldcM hM.1 hM.2.1 hM.2.2.2.1 (AW.at hC hl rfl) hC.1.2.2.2.2.2.2.2.2.1 hd (kk p e s m args below meth c H locs cells slots lsA tc ts hM hS hL h1 h2)
/-- where a method throws always -/
def Qx (X : String → AH → Prop) : RT → AH → Prop := fun r h => match r with
  | .inr E => X E h
  | _ => False
end EVN
