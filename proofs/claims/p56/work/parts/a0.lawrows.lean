/-! ROWS FOR THE LAW OF ITS OWN -/
section LX0
variable {p : Program} {l : Launch} {e : Env} {R : Room} {s : State} {m : MethodId} {args : Array Value} {below : List Frame} {meth : Method} {c : Code} {H : Heap} {locs : List Loc} {cells slots : Nat}
variable {T : State}
theorem lx_callSNX (X : Stand p l e R s m args below meth c T locs cells slots) (hexec : p.tables.exec = Jvm.exec) {own : String} {index : Nat} {host : String} {y : MethodName} {bytes : ByteArray} {maxL : Nat} {ret : Option FieldType} {hh : List (Nat × Nat × Nat × Nat)}
    (hown : s.vm.findClass own = some m.cls) (hlink : (Cond.methodLinkNest own index y host).before args s = true) (hstat : (Cond.static y).before args s = true) (hinit : (Cond.initialized y.cls).before args s = true)
    (hcode : (Cond.codeWith y bytes maxL ret hh).before args s = true) (hy : y.cls ≠ "java/lang/invoke/MethodHandle" ∧ y.cls ≠ "java/lang/invoke/VarHandle")
    {W9 : Nat} {Pre : Pt → Array Value → Prop} {Post : Pt → Array Value → Option Value → Pt → Prop} {PostX : Pt → Array Value → Addr → Pt → Prop} (hK : vx_Back l R p e below s args y 3 W9 Pre Post PostX)
    {g : JFrame} (hg : g.method = m) (hsize : g.locals.size = c.maxLocals) {argsL rest : List Value} (hlen : ∀ sig, parseMethodDescriptor y.desc = some sig → argsL.length = sig.parameters.length)
    (hstack : g.stack = argsL.reverse ++ rest) (hW : 2 * g.monitorRoom + (rest.map fun v => v.category).sum ≤ W9) (hdg : decode c.code g.pc = .ok (.invokestatic index, 3))
    (hpre : ∀ vm₁, s.WarmedH vm₁ → Pre ⟨T.setVm vm₁, locs, cells, slots⟩ argsL.toArray) :
    (∃ (v : Option Value) (vm₁ : Vm) (B : Pt), s.WarmedH vm₁ ∧ Stand p l e R s m args below meth c B.U B.locs B.cells B.slots ∧ Post ⟨T.setVm vm₁, locs, cells, slots⟩ argsL.toArray v B ∧
      ∀ target, Steps p.tables e below (B.U.setTop { g with pc := g.pc + 3, stack := v.toList ++ rest }) target → Steps p.tables e below (T.setTop g) target) ∨
    (∃ (q : Addr) (vm₁ : Vm) (B : Pt), s.WarmedH vm₁ ∧ Stand p l e R s m args below meth c B.U B.locs B.cells B.slots ∧ PostX ⟨T.setVm vm₁, locs, cells, slots⟩ argsL.toArray q B ∧
      Steps p.tables e below (T.setTop g) ((B.U.setTop { g with stack := rest }).pushFrame (.throwing q))) := by
  obtain ⟨mk, methM, cM, hnamed, hmethM, -, -, -, -, -, -, hsigM⟩ := Cond.codeWith_spec hcode
  have hstatic : methM.isStatic = true := Cond.static_spec hnamed hmethM hstat
  obtain ⟨kP, hkP, -⟩ := className_of_methodNamed hnamed
  have hinitP : kP.init = .initialized := Cond.initialized_spec (findClass_of_methodNamed hnamed) hkP hinit
  obtain ⟨vm₁, X₁, hstep₁⟩ := X.invokestaticNest hexec hown hlink hnamed hmethM hstatic hkP hinitP hy (g := g) hg (argsL := argsL) (rest := rest) (hlen _ hsigM) hstack hdg
  rcases hK m meth c ⟨T.setVm vm₁, locs, cells, slots⟩ { g with stack := rest } (.invokestatic index) mk argsL.toArray X₁ hg hsize hdg hW (X₁.named hnamed) (hpre vm₁ X₁.warmed) with ⟨v, B, X', hpost, hsteps⟩ | ⟨q, B, X', hpost, hsteps⟩
  · exact Or.inl ⟨v, vm₁, B, X₁.warmed, X', hpost, fun target h => hstep₁ _ fun acts => by rw [doInvoke_state]; exact hsteps.trans h⟩
  · exact Or.inr ⟨q, vm₁, B, X₁.warmed, X', hpost, hstep₁ _ fun acts => by rw [doInvoke_state]; exact hsteps⟩
abbrev lx_CNW (R : Room) (s : State) (args : Array Value) (own : String) (index : Nat) (y : MethodName) (host : String) (bytes : ByteArray) (maxL : Nat) (ret : Option FieldType) (hh : List (Nat × Nat × Nat × Nat)) (ws : List Cond) (rm : Room) (mc ms n : Nat) : Prop :=
  (rm.cells = mc ∧ rm.slots = ms ∧ rm.frames + 1 ≤ R.frames ∧ 8 + (maxL + 11) + rm.locals ≤ R.locals ∧ (∀ w ∈ ws, ∀ (a' : Array Value) (U : State), s.WarmedH U.vm → w.before a' U = true) ∧ Cond.codeWith y bytes maxL ret hh ∈ ws) ∧
  (Cond.codeWith y bytes maxL ret hh).before args s = true ∧ (Cond.initialized y.cls).before args s = true ∧ (y.cls ≠ "java/lang/invoke/MethodHandle" ∧ y.cls ≠ "java/lang/invoke/VarHandle") ∧
  (∀ sig, parseMethodDescriptor y.desc = some sig → n = sig.parameters.length) ∧ (Cond.methodLinkNest own index y host).before args s = true ∧ (Cond.static y).before args s = true
theorem lx_runSNX {y : MethodName} {bytes cc : ByteArray} {maxL nL mc ms n index : Nat} {ret : Option FieldType} {hh : List (Nat × Nat × Nat × Nat)} {ws : List Cond} {rm : Room} {Pc : Array Value → State → Prop} {Qc : Array Value → State → Outcome → State → Prop} {XC : String → State → State → Prop} {free : Addr → Prop} {Ts : List Cond} {own host : String} {As rest : List Value} {g : JFrame}
    (S : CallFix p m c cc nL s args Ts own) (hM : vx_Met l y ws rm Pc Qc XC mc ms free) (cw : lx_CNW R s args own index y host bytes maxL ret hh ws rm mc ms n) (hp : PreS s H Pc As)
    (hg : g.method = m) (hn : As.length = n) (hsize : g.locals.size = nL) (hstack : g.stack = As.reverse ++ rest) (hW : 2 * g.monitorRoom + (rest.map fun v => v.category).sum ≤ 8) (hdg : decode cc g.pc = .ok (.invokestatic index, 3)) (hf : cells + mc ≤ R.cells ∧ slots + ms ≤ R.slots) :
    vx_Run p l e R s m args below meth c H locs cells slots mc ms g rest (Qc As.toArray) XC free := by
  obtain ⟨⟨hrc, hrs, hfr, hlo, hws, hcw⟩, hcode, hini, hy, hlen, hl, hstt⟩ := cw
  have hK : vx_Back l R p e below s args y 3 8 (PreOf R mc ms Pc) (PostOf Qc mc ms free) (vx_Post XC mc ms free) := vx_backW (hh := hh) (bytes := bytes) (maxL := maxL) (ret := ret) hM hp.1 hrc hrs hfr hlo hws hcw (fun a' U hW => word_at hW (Or.inl (by first | rfl | simp [Cond.onTables, Cond.keeps, Cond.steady])) hini)
  obtain ⟨hx, hb, hml, ho, -⟩ := S
  intro T hT X
  rcases lx_callSNX X hx (hh := hh) (bytes := bytes) (maxL := maxL) (ret := ret) ho hl hstt hini hcode hy hK hg (hsize.trans hml.symm) (argsL := As) (rest := rest) (fun sig h => hn.trans (hlen sig h)) hstack hW (by rw [hb]; exact hdg)
    (fun vm₁ hW₁ => ⟨hf.1, hf.2, hp.2 (T.setVm vm₁) hT hW₁⟩) with ⟨v, vm₁, ⟨U', l2, c2, s2⟩, hW₁, X', ⟨g', mk, t, L, e1, e2, hq, h1, hL, h2, h3⟩, st⟩ | ⟨q, vm₁, ⟨U', l2, c2, s2⟩, hW₁, X', ⟨g', mk, t, L, E, ce, e1, e2, hq, hce, hcv, hcl, h1, hL, h2, h3⟩, st⟩
  · dsimp only [Pt.U, Pt.locs, Pt.cells, Pt.slots] at X' e1 e2 h1 h2 h3 st
    subst h1; subst h2; subst h3
    exact Or.inl ⟨v, (T.setVm vm₁).calling g' mk As.toArray, t, U', L, hT, X', hL, e1, e2, hq, st⟩
  · dsimp only [Pt.U, Pt.locs, Pt.cells, Pt.slots] at X' e1 e2 h1 h2 h3 st hcl
    subst h1; subst h2; subst h3
    exact Or.inr ⟨q, (T.setVm vm₁).calling g' mk As.toArray, t, U', L, E, ce, hT, X', hL, e1, e2, hq, hce, hcv, vx_cls hW₁ hcl, st⟩
end LX0
/-- a link of a nest mate's static method with handlers -/
def LKnh (own : String) (index : Nat) (M2 : Mt) (n : Nat) (host : String) : Prop := (mW M2 = Cond.codeWith (mY M2) (mC M2) (mL M2) (mR M2) (mH M2) ∧ Cond.methodLinkNest own index (mY M2) host ∈ lw_tbl ∧ Cond.codeWith (mY M2) (mC M2) (mL M2) (mR M2) (mH M2) ∈ lw_tbl ∧ Cond.initialized (mY M2).cls ∈ lw_tbl ∧ mL M2 ≤ 27) ∧
  ((mY M2).cls ≠ "java/lang/invoke/MethodHandle" ∧ (mY M2).cls ≠ "java/lang/invoke/VarHandle" ∧ (parseMethodDescriptor (mY M2).desc).map (fun d => d.parameters.length) = some n) ∧ Cond.static (mY M2) ∈ lw_tbl
/-- a field by the nest -/
def FLN (own : String) (index ci k : Nat) : Prop := ∃ (q : vw_C) (host : String), vwCl[ci]? = some q ∧ k < q.2.2 ∧ (∀ w ∈ u_ws q.1 q.2.1 q.2.2, w ∈ lw_tbl ∧ pw w = true) ∧ Cond.fieldLinkNest own index (q.2.1 k).1 (q.2.1 k).2.1 (q.2.1 k).2.2.1 host ∈ lw_tbl
section LX1
variable {g : Gt} {α : AL} {ν : Nat → Nat → Bool} {X : XM} {M M2 : Mt} {d d1 pc : Nat} {ls : List (Option Value)} {st st0 : List Value} {h : AH} {mc ms mc1 ms1 mc2 ms2 : Nat} {Q Q1 : RT → AH → Prop}
theorem ev_getfieldN {a index : Nat} {fs : List Value} {v : Value} (n ci k : Nat) (F : FLN (mY M).cls index ci k) (ha : h a = some (.inr (ci, fs))) (hv : fs[k]? = some v) (hd : decode (mC M) pc = .ok (.getfield index, 3)) (hn : pc + 3 = n) (kk : Ev g M d n ls (v :: st) h mc ms Q) : Ev g M d pc ls (.ref a :: st) h mc ms Q := by
  subst hn
  intro p e s m args below meth c H locs cells slots lsA tc ts hM hS hL h1 h2
  obtain ⟨q, host, f1, f2, f3, f4⟩ := F
  obtain ⟨m1, m2, m3, m4, m5, m6, m7, m8, m9⟩ := id hM
  refine va_getN (D := gD g) (cl := vwCl) (tys := gT g) (ci := ci) (v := v) (C := q.1) (T := q.2.1) (N := q.2.2) (Ts := u_ws q.1 q.2.1 q.2.2) (own := (mY M).cls) m1 m2 (fun w hw => AW.at m9 (f3 w hw).1 (f3 w hw).2) (fun _ hw => hw) m4 m9.1.1 (hS.1.one ha) 0 rfl f1 k f2 (AW.at m9 f4 rfl) (fun _ z => z) hv hd ?_
  exact kk p e s m args below meth c H locs cells slots lsA tc ts hM hS hL h1 h2
theorem ev_callSNH {index k : Nat} {host : String} {As : List Value} (n : Nat) (L : LKnh (mY M).cls index M2 k host) (hc : Ct g M2 d1 As h mc1 ms1 Q1) (hd1 : d1 < d) (hk : As.length = k) (hst : st0 = As.reverse ++ st) (hcat : (st.map fun v => v.category).sum ≤ 8) (hd : decode (mC M) pc = .ok (.invokestatic index, 3)) (hn : pc + 3 = n)
    (kr : ∀ v h', Q1 (.inl v) h' → Ev g M d n ls (v.toList ++ st) h' mc ms Q) (kx : ∀ E h', Q1 (.inr E) h' → Xv g M d pc ls E h' mc ms Q) : Ev g M d pc ls st0 h (mc1 + mc) (ms1 + ms) Q := by
  subst hst
  refine ev_of_vrun (As := As.toArray) n (fun p e s m args below meth c H locs cells slots lsA tc ts hM hS hL h1 h2 => ?_) hn kr kx
  have hC := hM.2.2.2.2.2.2.2.2
  obtain ⟨⟨l1, l2, l3, l4, l5⟩, l6, l7⟩ := L
  have ew : mWs M2 = Cond.codeWith (mY M2) (mC M2) (mL M2) (mR M2) (mH M2) :: [] := by show [mW M2] = _; rw [l1]
  have hR := rm_le (M2 := M2) hd1 l5 tc ts
  have hcw : ∀ A : Array Value, (Cond.codeWith (mY M2) (mC M2) (mL M2) (mR M2) (mH M2)).before A s = true := fun A => AW.at hC l3 rfl
  refine lx_runSNX (Ts := [Cond.codeWith (mY M2) (mC M2) (mL M2) (mR M2) (mH M2)]) (n := k) (hh := mH M2) (bytes := mC M2) (maxL := mL M2) (ret := mR M2) ⟨hM.1, hM.2.1, hM.2.2.2.2.1, hM.2.2.2.1, fun w hw => by rw [List.mem_singleton.mp hw]; exact hcw _⟩ hc ⟨⟨rfl, rfl, hR.1, hR.2, fun w hw a' U hW => ?_, by rw [ew]; exact List.mem_cons_self⟩, hcw _, AW.at hC l4 rfl, ⟨l6.1, l6.2.1⟩, fun sig hs => ?_, AW.at hC l2 rfl, AW.at hC l7 rfl⟩ ⟨ct_blind, fun U hU hW => ct_at hC hS hU hW⟩ rfl hk hL.1 rfl (lv_room hcat) hd ⟨by show cells + mc1 ≤ tc; omega, by show slots + ms1 ≤ ts; omega⟩
  · rw [ew] at hw
    rw [List.mem_singleton.mp hw]
    exact word_at hW (good_of_word rfl) (hcw args)
  · have h2 := l6.2.2
    rw [hs] at h2
    exact (Option.some.inj h2).symm
/-! calls that cost: what is left is said by the caller -/
theorem tp_S {As : List Value} {v : Value} {index k : Nat} (mc2 ms2 n : Nat) (hd : decode (mC M) pc = .ok (.invokestatic index, 3)) (L : LKs (mY M).cls index M2 k) (hc : Ct g M2 d1 As h mc1 ms1 (PQ (some v) h)) (hd1 : d1 < d) (hk : As.length = k) (hst : st0 = As.reverse ++ st) (hcat : (st.map fun v => v.category).sum ≤ 8) (hn : pc + 3 = n) (hm : mc1 + mc2 ≤ mc) (hs : ms1 + ms2 ≤ ms) (kk : Ev g M d n ls (v :: st) h mc2 ms2 Q) : Ev g M d pc ls st0 h mc ms Q :=
  ev_mono hm hs (ev_callS n L hc hd1 hk hst hcat hd hn (fun v2 h' hq => by obtain ⟨e1, e2⟩ := hq; cases e1; subst e2; exact kk) (fun E h' hq => by cases hq.1))
theorem tp_SH {As : List Value} {v : Value} {index k : Nat} (mc2 ms2 n : Nat) (hd : decode (mC M) pc = .ok (.invokestatic index, 3)) (L : LKh (mY M).cls index M2 k) (hc : Ct g M2 d1 As h mc1 ms1 (PQ (some v) h)) (hd1 : d1 < d) (hk : As.length = k) (hst : st0 = As.reverse ++ st) (hcat : (st.map fun v => v.category).sum ≤ 8) (hn : pc + 3 = n) (hm : mc1 + mc2 ≤ mc) (hs : ms1 + ms2 ≤ ms) (kk : Ev g M d n ls (v :: st) h mc2 ms2 Q) : Ev g M d pc ls st0 h mc ms Q :=
  ev_mono hm hs (ev_callSH n L hc hd1 hk hst hcat hd hn (fun v2 h' hq => by obtain ⟨e1, e2⟩ := hq; cases e1; subst e2; exact kk) (fun E h' hq => by cases hq.1))
theorem tp_SNH {As : List Value} {v : Value} {index k : Nat} {host : String} (mc2 ms2 n : Nat) (hd : decode (mC M) pc = .ok (.invokestatic index, 3)) (L : LKnh (mY M).cls index M2 k host) (hc : Ct g M2 d1 As h mc1 ms1 (PQ (some v) h)) (hd1 : d1 < d) (hk : As.length = k) (hst : st0 = As.reverse ++ st) (hcat : (st.map fun v => v.category).sum ≤ 8) (hn : pc + 3 = n) (hm : mc1 + mc2 ≤ mc) (hs : ms1 + ms2 ≤ ms) (kk : Ev g M d n ls (v :: st) h mc2 ms2 Q) : Ev g M d pc ls st0 h mc ms Q :=
  ev_mono hm hs (ev_callSNH n L hc hd1 hk hst hcat hd hn (fun v2 h' hq => by obtain ⟨e1, e2⟩ := hq; cases e1; subst e2; exact kk) (fun E h' hq => by cases hq.1))
theorem tp_V {As : List Value} {v : Value} {b : Nat} {fs : List Value} {index k : Nat} (mc2 ms2 n ci : Nat) (hd : decode (mC M) pc = .ok (.invokevirtual index, 3)) (L : LKv (mY M).cls index M2 k) (hb : h b = some (.inr (ci, fs))) (hci : vwCl[ci]?.map (·.1) = some (mY M2).cls) (hc : Ct g M2 d1 (.ref b :: As) h mc1 ms1 (PQ (some v) h)) (hd1 : d1 < d) (hk : As.length = k) (hst : st0 = As.reverse ++ .ref b :: st) (hcat : (st.map fun v => v.category).sum ≤ 8) (hn : pc + 3 = n) (hm : mc1 + mc2 ≤ mc) (hs : ms1 + ms2 ≤ ms) (kk : Ev g M d n ls (v :: st) h mc2 ms2 Q) : Ev g M d pc ls st0 h mc ms Q :=
  ev_mono hm hs (ev_callV n ci L hc hd1 hb hci hk hst hcat hd hn (fun v2 h' hq => by obtain ⟨e1, e2⟩ := hq; cases e1; subst e2; exact kk) (fun E h' hq => by cases hq.1))
theorem tl_S {As : List Value} {v : Value} {P : AL → (Nat → Nat → Bool) → XM → Prop} {index k : Nat} (mc2 ms2 n : Nat) (hd : decode (mC M) pc = .ok (.invokestatic index, 3)) (L : LKs (mY M).cls index M2 k) (hc : Al g M2 d1 As h mc1 ms1 (some v) P) (hd1 : d1 < d) (hk : As.length = k) (hst : st0 = As.reverse ++ st) (hcat : (st.map fun v => v.category).sum ≤ 8) (hn : pc + 3 = n) (hm : mc1 + mc2 ≤ mc) (hs : ms1 + ms2 ≤ ms) (kk : ∀ h' α' ν' X', TR g α' ν' X' h' → P α' ν' X' → Ev g M d n ls (v :: st) h' mc2 ms2 Q) : Ev g M d pc ls st0 h mc ms Q :=
  ev_mono hm hs (ev_callS n L hc hd1 hk hst hcat hd hn (fun v2 h' hq => by obtain ⟨e1, α', ν', X', e2, e3⟩ := hq; cases e1; exact kk h' α' ν' X' e2 e3) (fun E h' hq => by cases hq.1))
theorem tl_SH {As : List Value} {v : Value} {P : AL → (Nat → Nat → Bool) → XM → Prop} {index k : Nat} (mc2 ms2 n : Nat) (hd : decode (mC M) pc = .ok (.invokestatic index, 3)) (L : LKh (mY M).cls index M2 k) (hc : Al g M2 d1 As h mc1 ms1 (some v) P) (hd1 : d1 < d) (hk : As.length = k) (hst : st0 = As.reverse ++ st) (hcat : (st.map fun v => v.category).sum ≤ 8) (hn : pc + 3 = n) (hm : mc1 + mc2 ≤ mc) (hs : ms1 + ms2 ≤ ms) (kk : ∀ h' α' ν' X', TR g α' ν' X' h' → P α' ν' X' → Ev g M d n ls (v :: st) h' mc2 ms2 Q) : Ev g M d pc ls st0 h mc ms Q :=
  ev_mono hm hs (ev_callSH n L hc hd1 hk hst hcat hd hn (fun v2 h' hq => by obtain ⟨e1, α', ν', X', e2, e3⟩ := hq; cases e1; exact kk h' α' ν' X' e2 e3) (fun E h' hq => by cases hq.1))
theorem tl_V {As : List Value} {v : Value} {P : AL → (Nat → Nat → Bool) → XM → Prop} {b : Nat} {fs : List Value} {index k : Nat} (mc2 ms2 n ci : Nat) (hd : decode (mC M) pc = .ok (.invokevirtual index, 3)) (L : LKv (mY M).cls index M2 k) (hb : h b = some (.inr (ci, fs))) (hci : vwCl[ci]?.map (·.1) = some (mY M2).cls) (hc : Al g M2 d1 (.ref b :: As) h mc1 ms1 (some v) P) (hd1 : d1 < d) (hk : As.length = k) (hst : st0 = As.reverse ++ .ref b :: st) (hcat : (st.map fun v => v.category).sum ≤ 8) (hn : pc + 3 = n) (hm : mc1 + mc2 ≤ mc) (hs : ms1 + ms2 ≤ ms) (kk : ∀ h' α' ν' X', TR g α' ν' X' h' → P α' ν' X' → Ev g M d n ls (v :: st) h' mc2 ms2 Q) : Ev g M d pc ls st0 h mc ms Q :=
  ev_mono hm hs (ev_callV n ci L hc hd1 hb hci hk hst hcat hd hn (fun v2 h' hq => by obtain ⟨e1, α', ν', X', e2, e3⟩ := hq; cases e1; exact kk h' α' ν' X' e2 e3) (fun E h' hq => by cases hq.1))
/-! ends of contracts that may make cells -/
theorem lz_ret {a : Int} {p : Bool} {P : AL → (Nat → Nat → Bool) → XM → Prop} (e : a = bi p) (hT : TR g α ν X h) (hP : P α ν X) (hr : mR M = some .boolean) (hd : decode (mC M) pc = .ok (.ireturn, 1)) : Ev g M d pc ls [.int (J a)] h mc ms (AQ g (some (.int (J (bi p)))) P) := by
  subst e
  exact ev_zreturn (ty := .boolean) ⟨rfl, α, ν, X, hT, hP⟩ hr (nar_Z (bi_01 p)) hd
theorem li_ret {a b : Int} {P : AL → (Nat → Nat → Bool) → XM → Prop} (e : a = b) (hT : TR g α ν X h) (hP : P α ν X) (hr : mR M = some .int) (hd : decode (mC M) pc = .ok (.ireturn, 1)) : Ev g M d pc ls [.int (J a)] h mc ms (AQ g (some (.int (J b))) P) := by
  subst e
  exact ev_ireturn ⟨rfl, α, ν, X, hT, hP⟩ hr hd
theorem ct_end {av : List Value} {Q2 : RT → AH → Prop} (c : Ct g M d av h mc1 ms1 Q) (h1 : mc1 ≤ mc) (h2 : ms1 ≤ ms) (hp : plainName (mY M).cls = true) : True := trivial
end LX1
/-! numbers of the script -/
def lowM (x : Int32) : Nat := (x.toBitVec &&& 2147483647#32).toNat
def lowN (x : Int32) (n : Nat) : Nat := lowM x % n
theorem and_low (x : Int32) : x &&& J 2147483647 = J ((lowM x : Nat) : Int) ∧ lowM x < 2147483648 := by
  refine ⟨?_, ?_⟩
  · apply Int32.toBitVec_inj.mp
    rw [Int32.toBitVec_and]
    show x.toBitVec &&& (2147483647#32) = BitVec.ofInt 32 ((lowM x : Nat) : Int)
    unfold lowM
    rw [BitVec.ofInt_natCast, BitVec.ofNat_toNat, BitVec.setWidth_eq]
  · unfold lowM
    rw [BitVec.toNat_and]
    have : x.toBitVec.toNat &&& (2147483647#32).toNat ≤ 2147483647 := Nat.and_le_right
    omega
theorem lowN_lt (x : Int32) {n : Nat} (h : 0 < n) : lowN x n < n := Nat.mod_lt _ h
/-- a cell of the script, or what stands for it -/
def cellV (g : Gt) (k : Nat) : Int32 := if k < (gX g).2.1 then (gX g).2.2 k else J (40503 * (k : Int) + 77)
theorem kc_7 : Cond.constant RL 7 (40503 : Int32) ∈ lw_tbl := List.mem_of_getElem? (i := 417) (by decide +kernel)
theorem kc_8 : Cond.constant RL 8 (2147483647 : Int32) ∈ lw_tbl := List.mem_of_getElem? (i := 421) (by decide +kernel)
theorem c_L_low {g : Gt} {h : AH} {x : Int32} {n : Nat} (h0 : 0 < n) (h1 : n < 2147483648) : Pr g M_L_low 27 [.int x, .int (J (n : Int))] h (some (.int (J ((lowN x n : Nat) : Int)))) := by
  have q := and_low x
  refine pr_of rfl rfl (ls := [some (.int x), some (.int (J (n : Int)))]) rfl (Nat.le_of_ble_eq_true rfl) ?_
  refine ev_ild0 1 dL_low_0 rfl ?_
  refine ev_ldcI 2147483647 3 dL_low_1 (2147483647 : Int32) kc_8 rfl rfl ?_
  refine ev_iand 4 dL_low_3 rfl ?_
  rw [q.1]
  refine ev_ild1 5 dL_low_4 rfl ?_
  refine tj_irem 6 dL_low_5 (by omega) (by omega) rfl ?_
  exact ev_ireturn (pq_i rfl) rfl dL_low_6
theorem c_L_cell {g : Gt} {h : AH} (hl : (gX g).2.1 ≤ 260) {k : Nat} (hk : k ≤ 100) : Pr g M_L_cell 27 [.ref (gX g).1, .int (J (k : Int))] h (some (.int (cellV g k))) := by
  refine pr_of rfl rfl (ls := [some (.ref (gX g).1), some (.int (J (k : Int)))]) rfl (Nat.le_of_ble_eq_true rfl) ?_
  refine ev_ild1 1 dL_cell_0 rfl ?_
  refine ev_ald0 2 dL_cell_1 rfl ?_
  refine ev_scl 3 hl dL_cell_2 rfl ?_
  refine tj_icmp_ge 12 6 dL_cell_3 (by decide) rfl ⟨by omega, by omega⟩ ⟨by omega, by omega⟩ (fun c => ?_) (fun c => ?_)
  · have e : cellV g k = J (40503 * (k : Int) + 77) := if_neg (by omega)
    refine ev_ldcI 40503 14 dL_cell_12 (40503 : Int32) kc_7 rfl rfl ?_
    refine ev_ild1 15 dL_cell_14 rfl ?_
    refine tj_imul 16 dL_cell_15 rfl ?_
    refine tj_bipush 18 dL_cell_16 (by decide) rfl ?_
    refine tj_iadd 19 dL_cell_18 rfl ?_
    exact ev_ireturn ⟨by rw [e], rfl⟩ rfl dL_cell_19
  · have e : cellV g k = (gX g).2.2 k := if_pos (by omega)
    refine ev_ald0 7 dL_cell_6 rfl ?_
    refine ev_ild1 8 dL_cell_7 rfl ?_
    refine ev_scr k 9 rfl (by omega) hl dL_cell_8 rfl ?_
    refine ev_goto 19 dL_cell_9 (by decide) ?_
    exact ev_ireturn ⟨by rw [e], rfl⟩ rfl dL_cell_19
section LX2
variable {g : Gt} {α : AL} {ν : Nat → Nat → Bool} {X : XM} {M M2 : Mt} {d d1 pc : Nat} {ls : List (Option Value)} {st st0 : List Value} {h : AH} {mc ms mc1 ms1 mc2 ms2 : Nat} {Q Q1 : RT → AH → Prop}
theorem ly_low {x : Int32} {n0 : Int} {index : Nat} (k n : Nat) (hd : decode (mC M) pc = .ok (.invokestatic index, 3)) (L : LKs (mY M).cls index M_L_low 2) (h0 : n0 = (k : Int)) (h1 : 0 < k) (h2 : k < 1000) (hn : pc + 3 = n) (hd1 : 27 < d) (hcat : (st.map fun v => v.category).sum ≤ 8) (kk : ∀ r : Nat, r < k → Ev g M d n ls (.int (J (r : Int)) :: st) h mc ms Q) : Ev g M d pc ls (.int (J n0) :: .int x :: st) h mc ms Q := by
  subst h0
  exact tc_S2 n hd L hn hd1 hcat (c_L_low h1 (by omega)) (kk _ (lowN_lt x h1))
theorem ly_cell {z : Int} {index : Nat} (k n : Nat) (hl : (gX g).2.1 ≤ 260) (hd : decode (mC M) pc = .ok (.invokestatic index, 3)) (L : LKs (mY M).cls index M_L_cell 2) (hz : z = (k : Int)) (hk : k ≤ 100) (hn : pc + 3 = n) (hd1 : 27 < d) (hcat : (st.map fun v => v.category).sum ≤ 8) (kk : ∀ x : Int32, Ev g M d n ls (.int x :: st) h mc ms Q) : Ev g M d pc ls (.int (J z) :: .ref (gX g).1 :: st) h mc ms Q := by
  subst hz
  exact tc_S2 n hd L hn hd1 hcat (c_L_cell hl hk) (kk _)
theorem tj_mmin {index : Nat} {a b : Int} (n : Nat) (hd : decode (mC M) pc = .ok (.invokestatic index, 3)) (hl : Cond.methodLink (mY M).cls index Lib.Math.min.name ∈ lw_tbl) (hdd : 1 ≤ d) (hcat : (st.map fun v => v.category).sum + 13 ≤ 46 * d) (hn : pc + 3 = n) (ra : R31 a) (rb : R31 b) (kk : Ev g M d n ls (.int (J (if b < a then b else a)) :: st) h mc ms Q) : Ev g M d pc ls (.int (J b) :: .int (J a) :: st) h mc ms Q := by
  refine ev_mmin n hd hl mmin_w hdd hcat hn ?_
  have e : (if J b < J a then J b else J a) = J (if b < a then b else a) := by
    by_cases c : b < a
    · rw [if_pos c, if_pos ((J_lt rb ra).mpr c)]
    · rw [if_neg c, if_neg (fun z => c ((J_lt rb ra).mp z))]
  rw [e]
  exact kk
end LX2
theorem fln_L_66 : FLN RL 66 14 0 := ⟨(RX12, TX12, 9), "PrereqsLaw", rfl, by decide, uw_14, List.mem_of_getElem? (i := 432) (by decide +kernel)⟩
theorem fln_L_69 : FLN RL 69 14 1 := ⟨(RX12, TX12, 9), "PrereqsLaw", rfl, by decide, uw_14, List.mem_of_getElem? (i := 434) (by decide +kernel)⟩
theorem fln_L_77 : FLN RL 77 14 2 := ⟨(RX12, TX12, 9), "PrereqsLaw", rfl, by decide, uw_14, List.mem_of_getElem? (i := 436) (by decide +kernel)⟩
theorem fln_L_80 : FLN RL 80 14 3 := ⟨(RX12, TX12, 9), "PrereqsLaw", rfl, by decide, uw_14, List.mem_of_getElem? (i := 438) (by decide +kernel)⟩
theorem fln_L_188 : FLN RL 188 14 4 := ⟨(RX12, TX12, 9), "PrereqsLaw", rfl, by decide, uw_14, List.mem_of_getElem? (i := 440) (by decide +kernel)⟩
theorem fln_L_40 : FLN RL 40 14 5 := ⟨(RX12, TX12, 9), "PrereqsLaw", rfl, by decide, uw_14, List.mem_of_getElem? (i := 442) (by decide +kernel)⟩
theorem fln_L_53 : FLN RL 53 14 6 := ⟨(RX12, TX12, 9), "PrereqsLaw", rfl, by decide, uw_14, List.mem_of_getElem? (i := 444) (by decide +kernel)⟩
theorem fln_L_182 : FLN RL 182 14 7 := ⟨(RX12, TX12, 9), "PrereqsLaw", rfl, by decide, uw_14, List.mem_of_getElem? (i := 446) (by decide +kernel)⟩
theorem fln_L_59 : FLN RL 59 14 8 := ⟨(RX12, TX12, 9), "PrereqsLaw", rfl, by decide, uw_14, List.mem_of_getElem? (i := 448) (by decide +kernel)⟩
theorem lnh_X12_37 : LKnh RX12 37 M_L_best 3 "PrereqsLaw" := ⟨⟨rfl, List.mem_of_getElem? (i := 841) (by decide +kernel), List.mem_of_getElem? (i := 843) (by decide +kernel), List.mem_of_getElem? (i := 40) (by decide +kernel), by decide⟩, ⟨by decide +kernel, by decide +kernel, by decide +kernel⟩, List.mem_of_getElem? (i := 842) (by decide +kernel)⟩
theorem lnh_X12_70 : LKnh RX12 70 M_L_place 3 "PrereqsLaw" := ⟨⟨rfl, List.mem_of_getElem? (i := 912) (by decide +kernel), List.mem_of_getElem? (i := 914) (by decide +kernel), List.mem_of_getElem? (i := 40) (by decide +kernel), by decide⟩, ⟨by decide +kernel, by decide +kernel, by decide +kernel⟩, List.mem_of_getElem? (i := 913) (by decide +kernel)⟩
theorem lh_L_151 : LKh RL 151 M_L_place 3 := ⟨⟨rfl, List.mem_of_getElem? (i := 935) (by decide +kernel), List.mem_of_getElem? (i := 914) (by decide +kernel), List.mem_of_getElem? (i := 40) (by decide +kernel), by decide⟩, ⟨by decide +kernel, by decide +kernel, by decide +kernel⟩, List.mem_of_getElem? (i := 913) (by decide +kernel)⟩
theorem lh_L_164 : LKh RL 164 M_L_enroll 3 := ⟨⟨rfl, List.mem_of_getElem? (i := 942) (by decide +kernel), List.mem_of_getElem? (i := 944) (by decide +kernel), List.mem_of_getElem? (i := 40) (by decide +kernel), by decide⟩, ⟨by decide +kernel, by decide +kernel, by decide +kernel⟩, List.mem_of_getElem? (i := 943) (by decide +kernel)⟩
theorem lh_L_201 : LKh RL 201 M_L_best 3 := ⟨⟨rfl, List.mem_of_getElem? (i := 1116) (by decide +kernel), List.mem_of_getElem? (i := 843) (by decide +kernel), List.mem_of_getElem? (i := 40) (by decide +kernel), by decide⟩, ⟨by decide +kernel, by decide +kernel, by decide +kernel⟩, List.mem_of_getElem? (i := 842) (by decide +kernel)⟩
theorem lh_L_204 : LKh RL 204 M_L_moveIn 3 := ⟨⟨rfl, List.mem_of_getElem? (i := 1117) (by decide +kernel), List.mem_of_getElem? (i := 1119) (by decide +kernel), List.mem_of_getElem? (i := 40) (by decide +kernel), by decide⟩, ⟨by decide +kernel, by decide +kernel, by decide +kernel⟩, List.mem_of_getElem? (i := 1118) (by decide +kernel)⟩
theorem mmin_L_72 : Cond.methodLink RL 72 Lib.Math.min.name ∈ lw_tbl := List.mem_of_getElem? (i := 666) (by decide +kernel)
theorem mmax_X12_64 : Cond.methodLink RX12 64 Lib.Math.max.name ∈ lw_tbl := List.mem_of_getElem? (i := 893) (by decide +kernel)
theorem clL_10 : Cond.classLink RL 10 "Prereqs" ∈ lw_tbl := List.mem_of_getElem? (i := 73) (by decide +kernel)
theorem clL_37 : Cond.classLink RL 37 "PrereqsLaw$Told" ∈ lw_tbl := List.mem_of_getElem? (i := 425) (by decide +kernel)
theorem cas_IllegalArgumentException : Cond.castable "java/lang/IllegalArgumentException" "java/lang/IllegalArgumentException" ∈ lw_tbl := List.mem_of_getElem? (i := 477) (by decide +kernel)
theorem cas_IllegalStateException : Cond.castable "java/lang/IllegalStateException" "java/lang/IllegalStateException" ∈ lw_tbl := List.mem_of_getElem? (i := 549) (by decide +kernel)
theorem cas_IndexOutOfBoundsException : Cond.castable "java/lang/IndexOutOfBoundsException" "java/lang/IndexOutOfBoundsException" ∈ lw_tbl := List.mem_of_getElem? (i := 680) (by decide +kernel)
theorem cas_NoSuchElementException : Cond.castable "java/util/NoSuchElementException" "java/util/NoSuchElementException" ∈ lw_tbl := List.mem_of_getElem? (i := 768) (by decide +kernel)
theorem clL_15 : Cond.classLink RL 15 "java/util/NoSuchElementException" ∈ lw_tbl := List.mem_of_getElem? (i := 844) (by decide +kernel)
theorem clL_21 : Cond.classLink RL 21 "java/lang/IndexOutOfBoundsException" ∈ lw_tbl := List.mem_of_getElem? (i := 945) (by decide +kernel)
theorem cas_ArrayIndexOutOfBoundsException : Cond.castable "java/lang/ArrayIndexOutOfBoundsException" "java/lang/ArrayIndexOutOfBoundsException" ∈ lw_tbl := List.mem_of_getElem? (i := 957) (by decide +kernel)
theorem clL_23 : Cond.classLink RL 23 "java/lang/IllegalStateException" ∈ lw_tbl := List.mem_of_getElem? (i := 966) (by decide +kernel)
theorem clL_25 : Cond.classLink RL 25 "java/lang/IllegalArgumentException" ∈ lw_tbl := List.mem_of_getElem? (i := 967) (by decide +kernel)
theorem clL_27 : Cond.classLink RL 27 "java/lang/UnsupportedOperationException" ∈ lw_tbl := List.mem_of_getElem? (i := 968) (by decide +kernel)
theorem clL_29 : Cond.classLink RL 29 "java/lang/ArithmeticException" ∈ lw_tbl := List.mem_of_getElem? (i := 969) (by decide +kernel)
theorem cas_ArithmeticException : Cond.castable "java/lang/ArithmeticException" "java/lang/ArithmeticException" ∈ lw_tbl := List.mem_of_getElem? (i := 981) (by decide +kernel)
theorem cas_UnsupportedOperationException : Cond.castable "java/lang/UnsupportedOperationException" "java/lang/UnsupportedOperationException" ∈ lw_tbl := List.mem_of_getElem? (i := 991) (by decide +kernel)
