/-! NEW CELLS: rows that make them, and what is known of them -/
abbrev nGC : MethodName := ⟨"java/lang/Object", "getClass", "()Ljava/lang/Class;"⟩
theorem gcl_J7_86 : Cond.methodLink RJ7 86 nGC ∈ lw_tbl := List.mem_of_getElem? (i := 622) (by decide +kernel)
theorem gc_w : Cond.declares nGC ∈ lw_tbl ∧ Cond.selects "[Ljava/lang/Object;" nGC nGC ∈ lw_tbl ∧ Cond.instanceMethod nGC ∈ lw_tbl ∧ Cond.native nGC ∈ lw_tbl := ⟨List.mem_of_getElem? (i := 1164) (by decide +kernel), List.mem_of_getElem? (i := 1163) (by decide +kernel), List.mem_of_getElem? (i := 623) (by decide +kernel), List.mem_of_getElem? (i := 644) (by decide +kernel)⟩
section AL1
variable {g : Gt} {M M2 : Mt} {d d1 pc : Nat} {ls : List (Option Value)} {st st0 : List Value} {h hc h' : AH} {mc ms mc1 ms1 : Nat} {Q Q1 : RT → AH → Prop}
theorem ev_getC {index a len : Nat} {f : Nat → Option Nat} (n : Nat) (hd : decode (mC M) pc = .ok (.invokevirtual index, 3)) (hl : Cond.methodLink (mY M).cls index nGC ∈ lw_tbl) (ha : h a = some (.inl (3, len, .inr (.inr (.inr (.inr f)))))) (hdd : 1 ≤ d) (hcat : (st.map fun v => v.category).sum + 14 ≤ 46 * d) (hn : pc + 3 = n) (kk : Ev g M d n ls (.ref (gM g) :: st) h mc ms Q) : Ev g M d pc ls (.ref a :: st) h mc ms Q := by
  subst hn
  intro p e s m args below meth c H locs cells slots lsA tc ts hM hS hL h1 h2
  have hC := hM.2.2.2.2.2.2.2.2
  have hat : H[a]? = some (vp_cell (gA g 3) (len, .inr (.inr (.inr (.inr f))))) := hS.1 a _ ha
  exact va_getC hM.1 hM.2.1 (hM.2.2.2.2.1.trans hL.1.symm) hM.2.2.2.1 (AW.at hC hl rfl) (AW.at hC gc_w.1 rfl) (AW.at hC gc_w.2.1 rfl) (AW.at hC gc_w.2.2.1 rfl) (AW.at hC gc_w.2.2.2 rfl) hC.1.2.2.2.2.2.2.2.2.1 ⟨_, hat, rfl, va_nmO (hC.1.1.2 3 _ rfl).2 rfl⟩ hdd hcat hd (kk p e s m args below meth c H locs cells slots lsA tc ts hM hS hL h1 h2)
theorem HR.many {H H1 H0 : Heap} {locs locs1 : List Loc} {Z : va_W} (hh : HR g h H) (hb : gB g ≤ H0.size) (hS : va_S (gF g) H0 H locs) (hS1 : va_S (gF g) H0 H1 locs1) (hP : va_P (gD g) vwCl (wsH g h H.size ++ Z) H1) (hD : va_D (gF g) (wsH g h H.size ++ Z)) : (∀ z ∈ Z, h z.1 = none ∧ gB g ≤ z.1) ∧ (∀ a c, h a = some c → va_at (gD g) vwCl (a, cvA g c) H1) ∧ ∀ z ∈ Z, va_at (gD g) vwCl z H1 := by
  have hz : ∀ z ∈ Z, ∃ j : Nat, (wsH g h H.size).length ≤ j ∧ (wsH g h H.size ++ Z)[j]? = some z := fun z hz => by
    obtain ⟨j, hj⟩ := List.getElem?_of_mem hz
    exact ⟨(wsH g h H.size).length + j, Nat.le_add_right _ _, by rw [List.getElem?_append_right (Nat.le_add_right _ _), Nat.add_sub_cancel_left]; exact hj⟩
  refine ⟨fun z hz1 => ?_, fun b cb hcb => ?_, fun z hz1 => ?_⟩
  · obtain ⟨j, hj1, hj2⟩ := hz z hz1
    have hga : gB g ≤ z.1 := hD.2 _ _ hj2
    refine ⟨?_, hga⟩
    cases hcc : h z.1 with
    | none => rfl
    | some c1 =>
      obtain ⟨q1, hq1⟩ := List.getElem?_of_mem (wsH_in hh hcc hga)
      have l := (List.getElem?_eq_some_iff.mp hq1).1
      have hq2 : (wsH g h H.size ++ Z)[q1]? = some (z.1, cvA g c1) := by rw [List.getElem?_append_left l]; exact hq1
      have := hD.1 _ _ _ _ hq2 hj2 rfl
      omega
  · by_cases hz : gB g ≤ b
    · obtain ⟨q1, hq1⟩ := List.getElem?_of_mem (wsH_in hh hcb hz)
      have l := (List.getElem?_eq_some_iff.mp hq1).1
      exact hP q1 (b, cvA g cb) (by rw [List.getElem?_append_left l]; exact hq1)
    · have hn : ¬ gF g b := hz
      have lt : b < H0.size := Nat.lt_of_lt_of_le (Nat.not_le.mp hz) hb
      exact (hh b cb hcb).kept (((hS1.2.1 b lt hn)).trans (hS.2.1 b lt hn).symm)
  · obtain ⟨j, -, hj2⟩ := hz z hz1
    exact hP j z hj2
abbrev rowsC (N' : Nat) (r : Nat → Nat) : AC := .inl (4, N', .inr (.inr (.inr (.inr (fun i => if i < N' then some (r i) else none)))))
abbrev zi (n : Nat) : AC := .inl (0, n, .inl (fun _ => 0))
abbrev zz (n : Nat) : AC := .inl (1, n, .inl (fun _ => 0))
theorem ev_mna {index : Nat} {z w : Int32} {N' K' : Nat} (n : Nat) (hd : decode (mC M) pc = .ok (.multianewarray index 2, 4)) (hl : Cond.classLink (mY M).cls index "[[I" ∈ lw_tbl) (hw : Cond.arrayClass .int ∈ lw_tbl) (hz : ¬ z < 0) (hk : ¬ w < 0) (hN : z.toNatClampNeg = N') (hK : w.toNatClampNeg = K') (hb1 : N' * 4 ≤ 536870912) (hb2 : K' * 4 ≤ 536870912) (hn : pc + 4 = n) (kk : ∀ (h' : AH) (q : Nat) (r : Nat → Nat), h q = none → gB g ≤ q → (∀ i, i < N' → h (r i) = none ∧ gB g ≤ r i ∧ r i ≠ q) → (∀ i j, i < N' → j < N' → r i = r j → i = j) → h' q = some (rowsC N' r) → (∀ i, i < N' → h' (r i) = some (zi K')) → (∀ x c, h x = some c → h' x = some c) → Ev g M d n ls (.ref q :: st) h' mc ms Q) : Ev g M d pc ls (.int w :: .int z :: st) h (mc + (1 + N')) (ms + (N' + N' * K')) Q := by
  subst hn
  intro p e s m args below meth c H locs cells slots lsA tc ts hM hS hL h1 h2
  have hC := hM.2.2.2.2.2.2.2.2
  have e0 : va_pl [] (fun _ => (Sum.inl (gA g 0, 0, Sum.inl fun _ => 0) : va_E)) = [] := rfl
  refine va_mna (D := gD g) (cl := vwCl) (tys := gT g) (X := wsH g h H.size) (L := []) (f := fun _ => .inl (gA g 0, 0, .inl fun _ => 0)) (ty := .int) (cy := gA g 0) (z := (K', .inl (fun _ => 0))) (A := gF g) hM.1 hM.2.1 hM.2.2.2.1 (AW.at hC hl rfl) hC.1.2.2.2.2.2.2.2.2.2.2.2 (AW.at hC hw rfl) (va_nm_int (hC.1.1.2 0 _ rfl).2) hC.1.1 (by rw [e0, List.append_nil]; exact wsH_P hS.1) (by rw [e0, List.append_nil]; exact wsH_D g h H.size) hS.2 (fun q hq => Nat.le_trans hC.2.1 hq) hz hk hN hK hb1 hb2 (by omega) rfl rfl (show cells + (1 + N') ≤ tc by omega) (show slots + (N' + N' * K') ≤ ts by omega) (fun cA => ?_) hd (fun q r cA H1 hri _ hK1 hP1 hD1 hS1 => ?_)
  · rw [vp_cell_i]
    exact arrV_new cA K' (.int 0)
  · have e := ra_same (ki := 4) hC rfl hK1
    subst e
    rw [List.append_assoc] at hP1 hD1
    obtain ⟨m1, m2, m3⟩ := hS.1.many hC.2.1 hS.2 hS1 hP1 hD1
    have hmq : ∀ i, i < N' → (r i, (Sum.inl (gA g 0, K', Sum.inl fun _ => 0) : va_E)) ∈ [(q, (Sum.inl (gA g 4, N', .inr (.inr (.inr (.inr (fun i => if i < N' then some (r i) else none))))) : va_E))] ++ va_pl ([] ++ (List.range N').map r) (vr_up (fun _ => .inl (gA g 0, 0, .inl fun _ => 0)) ((List.range N').map r) (.inl (gA g 0, K', .inl fun _ => 0))) := fun i hi => by
      have hm : r i ∈ (List.range N').map r := List.mem_map.mpr ⟨i, List.mem_range.mpr hi, rfl⟩
      refine List.mem_append_right _ (List.mem_map.mpr ⟨r i, by rw [List.nil_append]; exact hm, ?_⟩)
      rw [vr_up_in hm]
    have hq0 := m1 (q, _) (List.mem_append_left _ (List.mem_singleton.mpr rfl))
    have hrq : ∀ i, i < N' → r i ≠ q := fun i hi e => by
      obtain ⟨j1, hj1⟩ := List.getElem?_of_mem (List.mem_append_right (wsH g h H.size) (List.mem_append_left (va_pl ([] ++ (List.range N').map r) (vr_up (fun _ => .inl (gA g 0, 0, .inl fun _ => 0)) ((List.range N').map r) (.inl (gA g 0, K', .inl fun _ => 0)))) (List.mem_singleton.mpr (rfl : (q, (Sum.inl (gA g 4, N', .inr (.inr (.inr (.inr (fun i => if i < N' then some (r i) else none))))) : va_E)) = _))))
      obtain ⟨j2, hj2⟩ := List.getElem?_of_mem (List.mem_append_right (wsH g h H.size) (hmq i hi))
      have e2 := hD1.1 _ _ _ _ hj1 hj2 e.symm
      rw [e2] at hj1
      have e3 := hj1.symm.trans hj2
      have e4 := congrArg (fun o : Option (Nat × va_E) => o.map (fun z => match z.2 with | .inl (c, n, .inl _) => true | _ => false)) e3
      simp at e4
    have hro : ∀ i, i < N' → h (r i) = none ∧ gB g ≤ r i ∧ r i ≠ q := fun i hi => ⟨(m1 _ (hmq i hi)).1, (m1 _ (hmq i hi)).2, hrq i hi⟩
    refine kk (fun a => if a = q then some (rowsC N' r) else if a ∈ (List.range N').map r then some (zi K') else h a) q r hq0.1 hq0.2 hro hri (if_pos rfl) (fun i hi => ?_) (fun x c hx => ?_) p e s m args below meth c H1 locs (cells + 1 + N') (slots + N' + N' * K') lsA tc ts hM ⟨fun a ca hca => ?_, hS1⟩ hL (by omega) (by omega)
    · rw [if_neg (hrq i hi), if_pos (List.mem_map.mpr ⟨i, List.mem_range.mpr hi, rfl⟩)]
    · rw [if_neg (fun e => by rw [e, hq0.1] at hx; cases hx), if_neg (fun e => by
        obtain ⟨i, hi, rfl⟩ := List.mem_map.mp e
        rw [(hro i (List.mem_range.mp hi)).1] at hx; cases hx)]
      exact hx
    · have hca : (if a = q then some (rowsC N' r) else if a ∈ (List.range N').map r then some (zi K') else h a) = some ca := hca
      by_cases e1 : a = q
      · rw [if_pos e1] at hca
        cases hca
        subst e1
        exact m3 _ (List.mem_append_left _ (List.mem_singleton.mpr rfl))
      · rw [if_neg e1] at hca
        by_cases e2 : a ∈ (List.range N').map r
        · rw [if_pos e2] at hca
          cases hca
          obtain ⟨i, hi, rfl⟩ := List.mem_map.mp e2
          exact m3 _ (hmq i (List.mem_range.mp hi))
        · rw [if_neg e2] at hca
          exact m2 a ca hca
/-- what is known where an object q with cell c is being made over h: the old stands, the new cells L are apart -/
def KN (g : Gt) (h hc : AH) (q : Nat) (c : AC) (L : List (Nat × AC)) : Prop := (hc q = some c ∧ gB g ≤ q ∧ ∃ c0, h q = some c0) ∧ (∀ x c, h x = some c → x ≠ q → hc x = some c) ∧ (∀ p ∈ L, hc p.1 = some p.2 ∧ gB g ≤ p.1 ∧ h p.1 = none) ∧ (L.map (·.1)).Nodup
variable {q : Nat} {c : AC} {L Z : List (Nat × AC)}
theorem KN.start (hq : h q = some c) (hb : gB g ≤ q) : KN g h h q c [] := ⟨⟨hq, hb, c, hq⟩, fun _ _ e _ => e, fun p hp => (by cases hp), List.nodup_nil⟩
theorem KN.q_ne (K : KN g h hc q c L) {p : Nat × AC} (hp : p ∈ L) : p.1 ≠ q := fun e => by
  obtain ⟨c0, h0⟩ := K.1.2.2
  have := (K.2.2.1 p hp).2.2
  rw [e, h0] at this
  cases this
theorem KN.app (K : KN g h hc q c L) (hz : ∀ p ∈ Z, hc p.1 = none ∧ gB g ≤ p.1 ∧ h' p.1 = some p.2) (hnd : (Z.map (·.1)).Nodup) (ho : ∀ x c, hc x = some c → h' x = some c) : KN g h h' q c (L ++ Z) := by
  refine ⟨⟨ho _ _ K.1.1, K.1.2⟩, fun x c hx hn => ho _ _ (K.2.1 x c hx hn), fun p hp => ?_, ?_⟩
  · rcases List.mem_append.mp hp with hp | hp
    · have := K.2.2.1 p hp
      exact ⟨ho _ _ this.1, this.2⟩
    · have := hz p hp
      refine ⟨this.2.2, this.2.1, ?_⟩
      cases e : h p.1 with
      | none => rfl
      | some c2 =>
        by_cases e2 : p.1 = q
        · rw [e2, K.1.1] at this; cases this.1
        · rw [K.2.1 _ _ e e2] at this; cases this.1
  · rw [List.map_append]
    refine List.nodup_append.mpr ⟨K.2.2.2, hnd, fun a ha b hb e => ?_⟩
    obtain ⟨p, hp, rfl⟩ := List.mem_map.mp ha
    obtain ⟨p2, hp2, rfl⟩ := List.mem_map.mp hb
    have e1 := (K.2.2.1 p hp).1
    rw [e, (hz p2 hp2).1] at e1
    cases e1
theorem KN.new {a : Nat} {c1 : AC} (K : KN g h hc q c L) (ha : hc a = none) (hb : gB g ≤ a) : KN g h (hup hc a c1) q c (L ++ [(a, c1)]) :=
  K.app (fun p hp => by rw [List.mem_singleton.mp hp]; exact ⟨ha, hb, hup_eq _ _ _⟩) (by simp) (fun x c hx => by rw [hup_ne (fun e => by rw [e, ha] at hx; cases hx)]; exact hx)
theorem KN.get {i a : Nat} {c1 : AC} (K : KN g h hc q c L) (hi : L[i]? = some (a, c1)) : hc a = some c1 ∧ gB g ≤ a ∧ h a = none := K.2.2.1 _ (List.mem_of_getElem? hi)
theorem KN.setq {c2 : AC} (K : KN g h hc q c L) : KN g h (hup hc q c2) q c2 L :=
  ⟨⟨hup_eq _ _ _, K.1.2⟩, fun x c hx hn => by rw [hup_ne hn]; exact K.2.1 x c hx hn, fun p hp => by rw [hup_ne (K.q_ne hp)]; exact K.2.2.1 p hp, K.2.2.2⟩
theorem KN.sets {i a : Nat} {c1 c2 : AC} (K : KN g h hc q c L) (hi : L[i]? = some (a, c1)) : KN g h (hup hc a c2) q c (L.set i (a, c2)) := by
  have hil := (List.getElem?_eq_some_iff.mp hi).1
  refine ⟨⟨?_, K.1.2⟩, fun x c hx hn => ?_, fun p hp => ?_, ?_⟩
  · rw [hup_ne (fun e => K.q_ne (List.mem_of_getElem? hi) e.symm)]
    exact K.1.1
  · rw [hup_ne (fun e => by rw [e, (K.get hi).2.2] at hx; cases hx)]
    exact K.2.1 x c hx hn
  · obtain ⟨j, hj⟩ := List.getElem?_of_mem hp
    rw [List.getElem?_set] at hj
    by_cases e : i = j
    · rw [if_pos e, if_pos (by omega)] at hj
      cases hj
      exact ⟨hup_eq _ _ _, (K.get hi).2⟩
    · rw [if_neg e] at hj
      have hne : p.1 ≠ a := fun e2 => by
        have hil' := (List.getElem?_eq_some_iff.mp hj).1
        have h1 : (L.map (·.1))[i]? = some a := by rw [List.getElem?_map, hi]; rfl
        have h2 : (L.map (·.1))[j]? = some a := by rw [List.getElem?_map, hj, ← e2]; rfl
        exact e ((List.getElem?_inj (by rw [List.length_map]; exact hil) K.2.2.2).mp (h1.trans h2.symm))
      rw [hup_ne hne]
      exact K.2.2.1 p (List.mem_of_getElem? hj)
  · have : (L.set i (a, c2)).map (·.1) = L.map (·.1) := by
      refine List.ext_getElem? (fun j => ?_)
      rw [List.getElem?_map, List.getElem?_map, List.getElem?_set]
      by_cases e : i = j
      · subst e
        rw [if_pos rfl, if_pos hil, hi]
        rfl
      · rw [if_neg e]
    rw [this]
    exact K.2.2.2
theorem KN.call {i a : Nat} {c1 c2 : AC} {L2 : List (Nat × AC)} (K : KN g h hc q c L) (hi : L[i]? = some (a, c1)) (K2 : KN g hc h' a c2 L2) : KN g h h' q c (L.set i (a, c2) ++ L2) := by
  refine (K.sets (c2 := c2) hi).app (fun p hp => ?_) K2.2.2.2 (fun x c hx => ?_)
  · have := K2.2.2.1 p hp
    refine ⟨?_, this.2.1, this.1⟩
    rw [hup_ne (K2.q_ne hp)]
    exact this.2.2
  · by_cases e : x = a
    · subst e
      rw [hup_eq] at hx
      cases hx
      exact K2.1.1
    · rw [hup_ne e] at hx
      exact K2.2.1 x c hx e
/-- the rows over it -/
theorem kv_putq {ci index : Nat} {fs fs' : List Value} {v : Value} (n k : Nat) (ty : FieldType) (F : FL (mY M).cls index ci k) (P : FP ci k ty false) (K : KN g h hc q (.inr (ci, fs)) L) (hnar : narrow ty v = v) (hfit : fits ty v = true) (hl : k < fs.length) (hd : decode (mC M) pc = .ok (.putfield index, 3)) (hf : fs.set k v = fs') (hn : pc + 3 = n) (kk : ∀ h', KN g h h' q (.inr (ci, fs')) L → Ev g M d n ls st h' mc ms Q) : Ev g M d pc ls (v :: .ref q :: st) hc mc ms Q := by
  subst hf
  exact ev_putfield n ci k ty F P K.1.1 K.1.2.1 hnar hfit hl hd hn (kk _ K.setq)
theorem kv_putqS {ci index : Nat} {fs fs' : List Value} {v : Value} (n k : Nat) (ty : FieldType) (F : FLS (mY M).cls index ci k) (P : FP ci k ty false) (K : KN g h hc q (.inr (ci, fs)) L) (hnar : narrow ty v = v) (hfit : fits ty v = true) (hl : k < fs.length) (hd : decode (mC M) pc = .ok (.putfield index, 3)) (hf : fs.set k v = fs') (hn : pc + 3 = n) (kk : ∀ h', KN g h h' q (.inr (ci, fs')) L → Ev g M d n ls st h' mc ms Q) : Ev g M d pc ls (v :: .ref q :: st) hc mc ms Q := by
  subst hf
  exact ev_putfieldS n ci k ty F P K.1.1 K.1.2.1 hnar hfit hl hd hn (kk _ K.setq)
theorem kv_putfin {ci index : Nat} {fs fs' : List Value} {v : Value} (n k : Nat) (ty : FieldType) (F : FL (mY M).cls index ci k) (P : FP ci k ty true) (hinit : (mY M).name = "<init>") (hdecl : ∀ q : vw_C, vwCl[ci]? = some q → (q.2.1 k).1 = (mY M).cls) (K : KN g h hc q (.inr (ci, fs)) L) (hnar : narrow ty v = v) (hfit : fits ty v = true) (hl : k < fs.length) (hd : decode (mC M) pc = .ok (.putfield index, 3)) (hf : fs.set k v = fs') (hn : pc + 3 = n) (kk : ∀ h', KN g h h' q (.inr (ci, fs')) L → Ev g M d n ls st h' mc ms Q) : Ev g M d pc ls (v :: .ref q :: st) hc mc ms Q := by
  subst hf
  exact ev_putfin n ci k ty F P hinit hdecl K.1.1 K.1.2.1 hnar hfit hl hd hn (kk _ K.setq)
theorem kv_newa {z : Int32} {N' ki : Nat} {at_ : ArrayType} {ty : FieldType} {a0 : vp_A} (n : Nat) (hd : decode (mC M) pc = .ok (.newarray at_, 2)) (hty : newarray.typeOf at_ = ty) (hki : (gT g)[ki]? = some (gA g ki, ty)) (hw : Cond.arrayClass ty ∈ lw_tbl) (ha : ∀ cA : ClassId, vp_cell cA a0 = arrV cA N' (fun _ => defaultValue ty)) (hz : ¬ z < 0) (hN : z.toNatClampNeg = N') (hsz : N' * componentBytes ty ≤ 536870912) (hn : pc + 2 = n) (K : KN g h hc q c L) (kk : ∀ h' a, KN g h h' q c (L ++ [(a, .inl (ki, a0))]) → Ev g M d n ls (.ref a :: st) h' mc ms Q) : Ev g M d pc ls (.int z :: st) hc (mc + 1) (ms + N') Q :=
  ev_newarray n hd hty hki hw ha hz hN hsz hn (fun a h1 h2 => kk _ a (K.new h1 h2))
theorem kv_new {index k : Nat} {fs : List Value} (n ci : Nat) (N : NW (mY M).cls index ci fs) (hk : fs.length = k) (hd : decode (mC M) pc = .ok (.new index, 3)) (hn : pc + 3 = n) (K : KN g h hc q c L) (kk : ∀ h' a, KN g h h' q c (L ++ [(a, .inr (ci, fs))]) → Ev g M d n ls (.ref a :: st) h' mc ms Q) : Ev g M d pc ls st hc (mc + 1) (ms + k) Q := by
  subst hk
  exact ev_new n ci N hd hn (fun a h1 h2 => kk _ a (K.new h1 h2))
theorem kv_mna {index : Nat} {z w : Int32} {N' K' : Nat} (n : Nat) (hd : decode (mC M) pc = .ok (.multianewarray index 2, 4)) (hl : Cond.classLink (mY M).cls index "[[I" ∈ lw_tbl) (hw : Cond.arrayClass .int ∈ lw_tbl) (hz : ¬ z < 0) (hk : ¬ w < 0) (hN : z.toNatClampNeg = N') (hK : w.toNatClampNeg = K') (hb1 : N' * 4 ≤ 536870912) (hb2 : K' * 4 ≤ 536870912) (hn : pc + 4 = n) (K : KN g h hc q c L) (kk : ∀ (h' : AH) (a : Nat) (r : Nat → Nat), KN g h h' q c (L ++ (a, rowsC N' r) :: (List.range N').map (fun i => (r i, zi K'))) → Ev g M d n ls (.ref a :: st) h' mc ms Q) : Ev g M d pc ls (.int w :: .int z :: st) hc (mc + (1 + N')) (ms + (N' + N' * K')) Q := by
  refine ev_mna n hd hl hw hz hk hN hK hb1 hb2 hn (fun h' a r h1 h2 h3 h4 h5 h6 h7 => kk h' a r (K.app (fun p hp => ?_) ?_ h7))
  · rcases List.mem_cons.mp hp with rfl | hp
    · exact ⟨h1, h2, h5⟩
    · obtain ⟨i, hi, rfl⟩ := List.mem_map.mp hp
      have := h3 i (List.mem_range.mp hi)
      exact ⟨this.1, this.2.1, h6 i (List.mem_range.mp hi)⟩
  · rw [List.map_cons, List.map_map]
    refine List.nodup_cons.mpr ⟨fun hm => ?_, ?_⟩
    · obtain ⟨i, hi, e⟩ := List.mem_map.mp hm
      exact (h3 i (List.mem_range.mp hi)).2.2 e
    · refine List.Pairwise.map _ (fun _ _ h => h) ?_
      refine List.Pairwise.imp_of_mem ?_ List.nodup_range
      intro a b ha hb hab e
      exact hab (h4 a b (List.mem_range.mp ha) (List.mem_range.mp hb) e)
end AL1
