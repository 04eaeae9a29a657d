/-! THE FRAME: a walk judgement 'Ev' over an own picture of the heap (addresses to cells), with the machine hidden in it. -/
/-- launch, the law's entry state, class ids, slots, array class ids, the list's empty array, the mirror of Object[] -/
abbrev Gt : Type := Launch × State × (Nat → ClassId) × (Nat → Nat → Nat) × (Nat → ClassId) × Nat × Nat × Nat × Nat × (Nat → Int32)
abbrev gL (g : Gt) : Launch := g.1
abbrev gS (g : Gt) : State := g.2.1
abbrev gB (g : Gt) : Nat := g.2.1.heap.size
abbrev gD (g : Gt) : va_G := (g.2.2.1, g.2.2.2.1)
abbrev gA (g : Gt) : Nat → ClassId := g.2.2.2.2.1
abbrev gE (g : Gt) : Nat := g.2.2.2.2.2.1
abbrev gM (g : Gt) : Nat := g.2.2.2.2.2.2.1
/-- the script: its cell, its length, its ints -/
abbrev gX (g : Gt) : Nat × Nat × (Nat → Int32) := g.2.2.2.2.2.2.2
/-- the array kinds: 0 int, 1 boolean, 2 char, 3 Object, 4 int[] -/
abbrev gT (g : Gt) : List (ClassId × FieldType) := [(gA g 0, .int), (gA g 1, .boolean), (gA g 2, .char), (gA g 3, .object "java/lang/Object"), (gA g 4, .array .int)]
abbrev AC : Type := (Nat × vp_A) ⊕ (Nat × List Value)
abbrev AH : Type := Nat → Option AC
def cvA (g : Gt) : AC → va_E
  | .inl q => .inl (gA g q.1, q.2)
  | .inr o => .inr o
def HR (g : Gt) (h : AH) (H : Heap) : Prop := ∀ a c, h a = some c → va_at (gD g) vwCl (a, cvA g c) H
abbrev gF (g : Gt) : Nat → Prop := fun q => gB g ≤ q
/-- method: name, code, locals, return type, handlers -/
abbrev Mt : Type := MethodName × ByteArray × Nat × Option FieldType × List (Nat × Nat × Nat × Nat)
abbrev mY (M : Mt) : MethodName := M.1
abbrev mC (M : Mt) : ByteArray := M.2.1
abbrev mL (M : Mt) : Nat := M.2.2.1
abbrev mR (M : Mt) : Option FieldType := M.2.2.2.1
abbrev mH (M : Mt) : List (Nat × Nat × Nat × Nat) := M.2.2.2.2
/-- the words of the tables that stay true as entries are resolved -/
def pw (w : Cond) : Bool := goodWord w || (match w with
  | .castable _ _ => true
  | .declares _ => true
  | .methodLinkNest _ _ _ _ => true
  | .fieldLinkNest _ _ _ _ _ _ => true
  | _ => false)
def mW (M : Mt) : Cond := match mH M with
  | [] => .code (mY M) (mC M) (mL M) (mR M)
  | hh => .codeWith (mY M) (mC M) (mL M) (mR M) hh
abbrev mWs (M : Mt) : List Cond := [mW M]
def lw_strs : List (String × Nat × String) := [("Prereqs", 65, "credits or seats are out of range"), ("Prereqs", 76, "there are as many courses as there can be"), ("Prereqs", 395, "the major is out of range"), ("Prereqs", 91, "there are as many students as there can be"), ("Prereqs", 401, "there is no such course"), ("Prereqs", 397, "the mark is out of range"), ("Prereqs", 408, "there are too many formulas, or this one is too deep"), ("Prereqs", 139, "the credits are out of range"), ("Prereqs", 403, "there is no such formula"), ("Prereqs", 399, "there is no such student"), ("Prereqs", 303, "there is no best mark"), ("Prereqs", 318, "the student is not waiting"), ("Prereqs", 195, "the days of enrollment are over"), ("Prereqs", 197, "the student is enrolled or waiting"), ("Prereqs", 201, "the requisite or the attempts forbid it"), ("Prereqs", 206, "the load would be too great"), ("Prereqs", 211, "there is neither a seat nor a place to wait"), ("Prereqs", 224, "the student is neither enrolled nor waiting"), ("Prereqs", 226, "the days of drops are over"), ("Prereqs", 178, "at least one day must pass"), ("Prereqs", 183, "the term has too few days"), ("Prereqs", 269, "the student is not enrolled"), ("Prereqs", 271, "the days of marks have not come"), ("Prereqs", 108, "there is no such number of seats"), ("Prereqs", 119, "the course has too few seats"), ("Prereqs", 287, "the student has passed the course"), ("Prereqs", 295, "too many credits would be moved in")]
def lw_ncs : List (String × String) := [("java/lang/IllegalStateException", "java/lang/IllegalArgumentException"), ("java/lang/IndexOutOfBoundsException", "java/lang/IllegalArgumentException"), ("java/util/NoSuchElementException", "java/lang/IllegalArgumentException"), ("java/lang/ArithmeticException", "java/lang/IllegalArgumentException"), ("java/lang/UnsupportedOperationException", "java/lang/IllegalArgumentException"), ("java/lang/IllegalArgumentException", "java/lang/IllegalStateException"), ("java/lang/IndexOutOfBoundsException", "java/lang/IllegalStateException"), ("java/util/NoSuchElementException", "java/lang/IllegalStateException"), ("java/lang/ArithmeticException", "java/lang/IllegalStateException"), ("java/lang/UnsupportedOperationException", "java/lang/IllegalStateException"), ("java/lang/IllegalArgumentException", "java/lang/IndexOutOfBoundsException"), ("java/lang/IllegalStateException", "java/lang/IndexOutOfBoundsException"), ("java/util/NoSuchElementException", "java/lang/IndexOutOfBoundsException"), ("java/lang/ArithmeticException", "java/lang/IndexOutOfBoundsException"), ("java/lang/UnsupportedOperationException", "java/lang/IndexOutOfBoundsException"), ("java/lang/IllegalArgumentException", "java/util/NoSuchElementException"), ("java/lang/IllegalStateException", "java/util/NoSuchElementException"), ("java/lang/IndexOutOfBoundsException", "java/util/NoSuchElementException"), ("java/lang/ArithmeticException", "java/util/NoSuchElementException"), ("java/lang/UnsupportedOperationException", "java/util/NoSuchElementException"), ("java/lang/IllegalArgumentException", "java/lang/UnsupportedOperationException"), ("java/lang/IllegalStateException", "java/lang/UnsupportedOperationException"), ("java/lang/IndexOutOfBoundsException", "java/lang/UnsupportedOperationException"), ("java/util/NoSuchElementException", "java/lang/UnsupportedOperationException"), ("java/lang/ArithmeticException", "java/lang/UnsupportedOperationException"), ("java/lang/IllegalArgumentException", "java/lang/ArithmeticException"), ("java/lang/IllegalStateException", "java/lang/ArithmeticException"), ("java/lang/IndexOutOfBoundsException", "java/lang/ArithmeticException"), ("java/util/NoSuchElementException", "java/lang/ArithmeticException"), ("java/lang/UnsupportedOperationException", "java/lang/ArithmeticException")]
def AWd (U : State) : Prop := ∀ w ∈ lw_tbl, pw w = true → w.before #[] U = true
theorem va_AOA.moved {t : FieldType} {u U : State} (hvm : u.vm.Alike U.vm) (h : va_AOA t u) : va_AOA t U := by
  have h0 : (Cond.arrayOver (.array t)).holds #[] u none u [] = true := h
  simp only [Cond.holds, Cond.value, beq_iff_eq] at h0
  cases hc : u.vm.findClass (FieldType.array t).toString with
  | none => simp [hc] at h0
  | some comp =>
    simp only [hc, Option.bind_some, Option.bind_eq_some_iff, Option.map_eq_some_iff] at h0
    obtain ⟨c, hi0, k, hk, hb⟩ := h0
    obtain ⟨k', hk', he⟩ := hvm.2.2 _ _ hk
    have hi : (U.vm.classes.findIdx? fun (x : Class) => match x.kind with | .array component _ => component == comp | _ => false) = some c := by
      have e1 := va_idx_bare U.vm comp
      rw [hvm.bare_eq] at e1
      exact (e1.symm.trans (va_idx_bare u.vm comp)).trans hi0
    have hkind : k'.kind = k.kind := by rw [he]
    have f1 : U.vm.findClass (FieldType.array t).toString = some comp := by rw [hvm.findClass]; exact hc
    show (Cond.arrayOver (.array t)).holds #[] U none U [] = true
    simp only [Cond.holds, Cond.value, beq_iff_eq]
    rw [f1, Option.bind_some]
    refine (congrArg (fun o : Option Nat => o.bind _) hi).trans ?_
    rw [Option.bind_some, hk', Option.map_some, hkind, hvm.findClass]
    exact congrArg some hb
/-- what holds at every state of a run: classes and arrays; the tables' words; no traces; two statics of Throwable; the constant texts; the list's empty array; and what was there before is there -/
def CTX (g : Gt) (U : State) : Prop := (va_K (gD g) vwCl (gT g) U ∧ AWd U ∧ (gL g).stackTraces = false ∧
  vx_Zq Bundle.tN "UNASSIGNED_STACK" Bundle.steD (gF g) U U.heap ∧ vx_Zq Bundle.tN "SUPPRESSED_SENTINEL" Bundle.listD (gF g) U U.heap ∧ (∀ q ∈ lw_strs, ∃ sa, vk_R q.1 q.2.1 q.2.2 sa U) ∧
  va_Z "java/util/ArrayList" "DEFAULTCAPACITY_EMPTY_ELEMENTDATA" "[Ljava/lang/Object;" (.ref (gE g)) (gF g) U U.heap ∧ va_T (.object "java/lang/Object") (gE g) 0 (fun _ => .null) (gF g) U U.heap ∧ va_Mi "[Ljava/lang/Object;" (gM g) U ∧ (∀ q ∈ lw_ncs, va_Nc q.1 q.2 U) ∧ va_AO "java/lang/Object" U ∧ va_AOA .int U) ∧
  gB g ≤ U.heap.size ∧ (∀ a, a < gB g → U.heap[a]? = (gS g).heap[a]?) ∧ va_X (gX g).1 (gX g).2.1 (gX g).2.2 U U.heap ∧ (gX g).1 < gB g
abbrev RT : Type := Option Value ⊕ String
def QcO (g : Gt) (Q : RT → AH → Prop) : Array Value → State → Outcome → State → Prop := fun _ st o t => (∃ v h', o = .returned v ∧ Q (.inl v) h' ∧ HR g h' t.heap) ∧ va_F (gF g) st t
def XcO (g : Gt) (Q : RT → AH → Prop) : String → State → State → Prop := fun E st t => (∃ h', Q (.inr E) h' ∧ HR g h' t.heap) ∧ va_F (gF g) st t
abbrev rmD (d mc ms : Nat) : Room := { frames := d, cells := mc, slots := ms, locals := 46 * d }
def ldL (ls : List (Option Value)) (i : Nat) : Option Value := match ls[i]? with
  | some (some v) => some v
  | _ => none
def LX (lsA : Array Slot) (n : Nat) (ls : List (Option Value)) : Prop := lsA.size = n ∧ lv_wf lsA ∧ ∀ i v, ldL ls i = some v → lsA[i]? = some (.val v)
def MX (g : Gt) (M : Mt) (p : Program) (s : State) (m : MethodId) (args : Array Value) (meth : Method) (c : Code) : Prop :=
  p.tables.exec = Jvm.exec ∧ c.code = mC M ∧ meth.sig.returnType = mR M ∧ s.vm.findClass (mY M).cls = some m.cls ∧ c.maxLocals = mL M ∧ meth.locks = false ∧ meth.name = (mY M).name ∧ c.exceptionTable.toList = tableOf (mH M) ∧ CTX g s
def SX (g : Gt) (h : AH) (s : State) (H : Heap) (locs : List Loc) : Prop := HR g h H ∧ va_S (gF g) s.heap H locs
/-- THE JUDGEMENT: the method M at pc, with these locals and stack over the heap h, ends with Q; at most mc cells of ms slots come -/
def Ev (g : Gt) (M : Mt) (d pc : Nat) (ls : List (Option Value)) (st : List Value) (h : AH) (mc ms : Nat) (Q : RT → AH → Prop) : Prop :=
  ∀ (p : Program) (e : Env) (s : State) (m : MethodId) (args : Array Value) (below : List Frame) (meth : Method) (c : Code) (H : Heap) (locs : List Loc) (cells slots : Nat) (lsA : Array Slot) (tc ts : Nat),
    MX g M p s m args meth c → SX g h s H locs → LX lsA (mL M) ls → cells + mc ≤ tc → slots + ms ≤ ts →
    W p (gL g) e (rmD d tc ts) s m args below meth c H locs cells slots (vx_MQ below (QcO g Q) (XcO g Q) args s tc ts (gF g)) (F0 m pc lsA st)
/-- a contract that may throw; and one that doesn't -/
def Ct (g : Gt) (M : Mt) (d : Nat) (av : List Value) (h : AH) (mc ms : Nat) (Q : RT → AH → Prop) : Prop :=
  vx_Met (gL g) (mY M) (mWs M) (rmD d mc ms) (fun a U => a = av.toArray ∧ CTX g U ∧ HR g h U.heap) (QcO g Q) (XcO g Q) mc ms (gF g)
def Cn (g : Gt) (M : Mt) (d : Nat) (av : List Value) (h : AH) (mc ms : Nat) (Q : RT → AH → Prop) : Prop :=
  Met (gL g) (mY M) (mWs M) (rmD d mc ms) (fun a U => a = av.toArray ∧ CTX g U ∧ HR g h U.heap) (QcO g Q) mc ms (gF g)
theorem ldL_nil (i : Nat) : ldL [] i = none := by simp [ldL]
theorem ldL_0 (o : Option Value) (t : List (Option Value)) : ldL (o :: t) 0 = o := by cases o <;> simp [ldL]
theorem ldL_s (o : Option Value) (t : List (Option Value)) (i : Nat) : ldL (o :: t) (i + 1) = ldL t i := by simp [ldL]
def enL : Nat → List (Option Value) → List (Nat × Value)
  | _, [] => []
  | k, some v :: t => (k, v) :: enL (k + 1) t
  | k, none :: t => enL (k + 1) t
theorem enL_mem : ∀ (ls : List (Option Value)) (k i : Nat) (v : Value), ldL ls i = some v → (k + i, v) ∈ enL k ls
  | [], k, i, v, h => by simp [ldL] at h
  | o :: t, k, 0, v, h => by
    rw [ldL_0] at h
    subst h
    simp [enL]
  | o :: t, k, i + 1, v, h => by
    rw [ldL_s] at h
    have ih := enL_mem t (k + 1) i v h
    rw [show k + 1 + i = k + (i + 1) by omega] at ih
    cases o with
    | none => exact ih
    | some w => exact List.mem_cons_of_mem _ ih
theorem enL_of : ∀ (ls : List (Option Value)) (k : Nat) (q : Nat × Value), q ∈ enL k ls → ∃ i, q.1 = k + i ∧ ldL ls i = some q.2
  | [], k, q, h => by simp [enL] at h
  | none :: t, k, q, h => by
    obtain ⟨i, e1, e2⟩ := enL_of t (k + 1) q h
    exact ⟨i + 1, by omega, by rw [ldL_s]; exact e2⟩
  | some w :: t, k, q, h => by
    rcases List.mem_cons.mp h with h | h
    · subst h
      exact ⟨0, rfl, ldL_0 _ _⟩
    · obtain ⟨i, e1, e2⟩ := enL_of t (k + 1) q h
      exact ⟨i + 1, by omega, by rw [ldL_s]; exact e2⟩
theorem LX.has {lsA : Array Slot} {n : Nat} {ls : List (Option Value)} (h : LX lsA n ls) : lv_has lsA n (enL 0 ls) := by
  refine ⟨h.1, h.2.1, fun q hq => ?_⟩
  obtain ⟨i, e1, e2⟩ := enL_of ls 0 q hq
  rw [Nat.zero_add] at e1
  rw [e1]
  exact h.2.2 i _ e2
def ca2 : Option Value → Bool
  | some v => v.category == 2
  | none => false
/-- a store: at i the value; what was a half of another value is gone -/
def stG (i : Nat) (v : Value) : Nat → List (Option Value) → List (Option Value)
  | _, [] => []
  | k, o :: t => (if k = i then some v else if (k + 1 = i ∧ ca2 o = true) ∨ (k = i + 1 ∧ v.category = 2) then none else o) :: stG i v (k + 1) t
abbrev stL (ls : List (Option Value)) (i : Nat) (v : Value) : List (Option Value) := stG i v 0 ls
theorem stG_ld (i : Nat) (v : Value) : ∀ (ls : List (Option Value)) (k j : Nat) (w : Value), ldL (stG i v k ls) j = some w → (k + j = i ∧ w = v) ∨ (k + j ≠ i ∧ ldL ls j = some w ∧ ¬ (k + j + 1 = i ∧ w.category = 2) ∧ ¬ (k + j = i + 1 ∧ v.category = 2))
  | [], k, j, w, h => by simp [stG, ldL] at h
  | o :: t, k, 0, w, h => by
    rw [stG, ldL_0] at h
    rw [ldL_0]
    by_cases c1 : k = i
    · rw [if_pos c1] at h
      exact Or.inl ⟨c1, (Option.some.inj h).symm⟩
    · rw [if_neg c1] at h
      by_cases c2 : (k + 1 = i ∧ ca2 o = true) ∨ (k = i + 1 ∧ v.category = 2)
      · rw [if_pos c2] at h
        cases h
      · rw [if_neg c2] at h
        subst h
        exact Or.inr ⟨c1, rfl, fun z => c2 (Or.inl ⟨z.1, by simp [ca2, z.2]⟩), fun z => c2 (Or.inr ⟨z.1, z.2⟩)⟩
  | o :: t, k, j + 1, w, h => by
    rw [stG, ldL_s] at h
    rw [ldL_s]
    have ih := stG_ld i v t (k + 1) j w h
    rwa [show k + 1 + j = k + (j + 1) by omega] at ih
theorem LX.st1 {ls' : Array Slot} {n : Nat} {ls : List (Option Value)} {i : Nat} {v : Value} (hc : v.category = 1) (h : lv_has ls' n ((i, v) :: (enL 0 ls).filter (fun q => !(q.1 == i) && !(q.1 + 1 == i && q.2.category == 2)))) : LX ls' n (stL ls i v) := by
  refine ⟨h.1, h.2.1, fun j w hj => ?_⟩
  rcases stG_ld i v ls 0 j w hj with ⟨e1, e2⟩ | ⟨e1, e2, e3, -⟩
  · rw [Nat.zero_add] at e1
    subst e1 e2
    exact h.2.2 _ List.mem_cons_self
  · rw [Nat.zero_add] at e1 e3
    refine h.2.2 (j, w) (List.mem_cons_of_mem _ (List.mem_filter.mpr ⟨?_, ?_⟩))
    · have := enL_mem ls 0 j w e2
      rwa [Nat.zero_add] at this
    · simp only [Bool.and_eq_true, Bool.not_eq_true', beq_eq_false_iff_ne, Bool.and_eq_false_iff, ne_eq]
      refine ⟨e1, ?_⟩
      by_cases c : j + 1 = i
      · exact Or.inr (fun z => e3 ⟨c, z⟩)
      · exact Or.inl c
theorem LX.st2 {ls' : Array Slot} {n : Nat} {ls : List (Option Value)} {i : Nat} {v : Value} (hc : v.category = 2) (h : lv_has ls' n ((i, v) :: (enL 0 ls).filter (fun q => !(q.1 == i) && (!(q.1 == i + 1) && !(q.1 + 1 == i && q.2.category == 2))))) : LX ls' n (stL ls i v) := by
  refine ⟨h.1, h.2.1, fun j w hj => ?_⟩
  rcases stG_ld i v ls 0 j w hj with ⟨e1, e2⟩ | ⟨e1, e2, e3, e4⟩
  · rw [Nat.zero_add] at e1
    subst e1 e2
    exact h.2.2 _ List.mem_cons_self
  · rw [Nat.zero_add] at e1 e3 e4
    refine h.2.2 (j, w) (List.mem_cons_of_mem _ (List.mem_filter.mpr ⟨?_, ?_⟩))
    · have := enL_mem ls 0 j w e2
      rwa [Nat.zero_add] at this
    · simp only [Bool.and_eq_true, Bool.not_eq_true', beq_eq_false_iff_ne, Bool.and_eq_false_iff, ne_eq]
      refine ⟨e1, fun z => e4 ⟨z, hc⟩, ?_⟩
      by_cases c : j + 1 = i
      · exact Or.inr (fun z => e3 ⟨c, z⟩)
      · exact Or.inl c
theorem LX.weaken {ls' : Array Slot} {n : Nat} {ls ls2 : List (Option Value)} (h : LX ls' n ls) (k : ∀ i v, ldL ls2 i = some v → ldL ls i = some v) : LX ls' n ls2 := ⟨h.1, h.2.1, fun i v z => h.2.2 i v (k i v z)⟩
theorem stG_far (i : Nat) (v : Value) : ∀ (t : List (Option Value)) (k : Nat), i < k → (k = i + 1 → ¬ v.category = 2) → stG i v k t = t
  | [], _, _, _ => rfl
  | o :: t, k, h1, h2 => by
    rw [stG, if_neg (by omega), if_neg (by rintro (⟨z, -⟩ | ⟨z, z2⟩); omega; exact h2 z z2), stG_far i v t (k + 1) (by omega) (by omega)]
section EVL
variable {g : Gt} {M : Mt} {d pc : Nat} {ls : List (Option Value)} {st : List Value} {h : AH} {mc ms : Nat} {Q : RT → AH → Prop}
theorem ev_iadd {x y : Int32} (n : Nat) (hd : decode (mC M) pc = .ok (.iadd, 1)) (hn : pc + 1 = n) (k : Ev g M d n ls (.int (x + y) :: st) h mc ms Q) : Ev g M d pc ls (.int y :: .int x :: st) h mc ms Q := by
  subst hn
  intro p e s m args below meth c H locs cells slots lsA tc ts hM hS hL h1 h2
  exact lv_iadd hM.1 hM.2.1 hd (k p e s m args below meth c H locs cells slots lsA tc ts hM hS hL h1 h2)
theorem ev_isub {x y : Int32} (n : Nat) (hd : decode (mC M) pc = .ok (.isub, 1)) (hn : pc + 1 = n) (k : Ev g M d n ls (.int (x - y) :: st) h mc ms Q) : Ev g M d pc ls (.int y :: .int x :: st) h mc ms Q := by
  subst hn
  intro p e s m args below meth c H locs cells slots lsA tc ts hM hS hL h1 h2
  exact lv_isub hM.1 hM.2.1 hd (k p e s m args below meth c H locs cells slots lsA tc ts hM hS hL h1 h2)
theorem ev_imul {x y : Int32} (n : Nat) (hd : decode (mC M) pc = .ok (.imul, 1)) (hn : pc + 1 = n) (k : Ev g M d n ls (.int (x * y) :: st) h mc ms Q) : Ev g M d pc ls (.int y :: .int x :: st) h mc ms Q := by
  subst hn
  intro p e s m args below meth c H locs cells slots lsA tc ts hM hS hL h1 h2
  exact lv_imul hM.1 hM.2.1 hd (k p e s m args below meth c H locs cells slots lsA tc ts hM hS hL h1 h2)
theorem ev_iand {x y : Int32} (n : Nat) (hd : decode (mC M) pc = .ok (.iand, 1)) (hn : pc + 1 = n) (k : Ev g M d n ls (.int (x &&& y) :: st) h mc ms Q) : Ev g M d pc ls (.int y :: .int x :: st) h mc ms Q := by
  subst hn
  intro p e s m args below meth c H locs cells slots lsA tc ts hM hS hL h1 h2
  exact lv_iand hM.1 hM.2.1 hd (k p e s m args below meth c H locs cells slots lsA tc ts hM hS hL h1 h2)
theorem ev_ior {x y : Int32} (n : Nat) (hd : decode (mC M) pc = .ok (.ior, 1)) (hn : pc + 1 = n) (k : Ev g M d n ls (.int (x ||| y) :: st) h mc ms Q) : Ev g M d pc ls (.int y :: .int x :: st) h mc ms Q := by
  subst hn
  intro p e s m args below meth c H locs cells slots lsA tc ts hM hS hL h1 h2
  exact lv_ior hM.1 hM.2.1 hd (k p e s m args below meth c H locs cells slots lsA tc ts hM hS hL h1 h2)
theorem ev_ixor {x y : Int32} (n : Nat) (hd : decode (mC M) pc = .ok (.ixor, 1)) (hn : pc + 1 = n) (k : Ev g M d n ls (.int (x ^^^ y) :: st) h mc ms Q) : Ev g M d pc ls (.int y :: .int x :: st) h mc ms Q := by
  subst hn
  intro p e s m args below meth c H locs cells slots lsA tc ts hM hS hL h1 h2
  exact lv_ixor hM.1 hM.2.1 hd (k p e s m args below meth c H locs cells slots lsA tc ts hM hS hL h1 h2)
theorem ev_ishr {x y : Int32} (n : Nat) (hd : decode (mC M) pc = .ok (.ishr, 1)) (hn : pc + 1 = n) (k : Ev g M d n ls (.int (x >>> (y &&& 31)) :: st) h mc ms Q) : Ev g M d pc ls (.int y :: .int x :: st) h mc ms Q := by
  subst hn
  intro p e s m args below meth c H locs cells slots lsA tc ts hM hS hL h1 h2
  exact lv_ishr hM.1 hM.2.1 hd (k p e s m args below meth c H locs cells slots lsA tc ts hM hS hL h1 h2)
theorem ev_ishl {x y : Int32} (n : Nat) (hd : decode (mC M) pc = .ok (.ishl, 1)) (hn : pc + 1 = n) (k : Ev g M d n ls (.int (x <<< (y &&& 31)) :: st) h mc ms Q) : Ev g M d pc ls (.int y :: .int x :: st) h mc ms Q := by
  subst hn
  intro p e s m args below meth c H locs cells slots lsA tc ts hM hS hL h1 h2
  exact lv_ishl hM.1 hM.2.1 hd (k p e s m args below meth c H locs cells slots lsA tc ts hM hS hL h1 h2)
theorem ev_idiv {x y : Int32} (n : Nat) (hd : decode (mC M) pc = .ok (.idiv, 1)) (hne : ¬ y = 0) (hn : pc + 1 = n) (k : Ev g M d n ls (.int (x / y) :: st) h mc ms Q) : Ev g M d pc ls (.int y :: .int x :: st) h mc ms Q := by
  subst hn
  intro p e s m args below meth c H locs cells slots lsA tc ts hM hS hL h1 h2
  exact lv_idiv hM.1 hM.2.1 hd hne (k p e s m args below meth c H locs cells slots lsA tc ts hM hS hL h1 h2)
theorem ev_irem {x y : Int32} (n : Nat) (hd : decode (mC M) pc = .ok (.irem, 1)) (hne : ¬ y = 0) (hn : pc + 1 = n) (k : Ev g M d n ls (.int (x - x / y * y) :: st) h mc ms Q) : Ev g M d pc ls (.int y :: .int x :: st) h mc ms Q := by
  subst hn
  intro p e s m args below meth c H locs cells slots lsA tc ts hM hS hL h1 h2
  exact lv_irem hM.1 hM.2.1 hd hne (k p e s m args below meth c H locs cells slots lsA tc ts hM hS hL h1 h2)
theorem ev_ladd {x y : Int64} (n : Nat) (hd : decode (mC M) pc = .ok (.ladd, 1)) (hn : pc + 1 = n) (k : Ev g M d n ls (.long (x + y) :: st) h mc ms Q) : Ev g M d pc ls (.long y :: .long x :: st) h mc ms Q := by
  subst hn
  intro p e s m args below meth c H locs cells slots lsA tc ts hM hS hL h1 h2
  exact lv_ladd hM.1 hM.2.1 hd (k p e s m args below meth c H locs cells slots lsA tc ts hM hS hL h1 h2)
theorem ev_land {x y : Int64} (n : Nat) (hd : decode (mC M) pc = .ok (.land, 1)) (hn : pc + 1 = n) (k : Ev g M d n ls (.long (x &&& y) :: st) h mc ms Q) : Ev g M d pc ls (.long y :: .long x :: st) h mc ms Q := by
  subst hn
  intro p e s m args below meth c H locs cells slots lsA tc ts hM hS hL h1 h2
  exact lv_land hM.1 hM.2.1 hd (k p e s m args below meth c H locs cells slots lsA tc ts hM hS hL h1 h2)
theorem ev_lor {x y : Int64} (n : Nat) (hd : decode (mC M) pc = .ok (.lor, 1)) (hn : pc + 1 = n) (k : Ev g M d n ls (.long (x ||| y) :: st) h mc ms Q) : Ev g M d pc ls (.long y :: .long x :: st) h mc ms Q := by
  subst hn
  intro p e s m args below meth c H locs cells slots lsA tc ts hM hS hL h1 h2
  exact lv_lor hM.1 hM.2.1 hd (k p e s m args below meth c H locs cells slots lsA tc ts hM hS hL h1 h2)
theorem ev_lushr {x : Int64} {y : Int32} (n : Nat) (hd : decode (mC M) pc = .ok (.lushr, 1)) (hn : pc + 1 = n) (k : Ev g M d n ls (.long ((x.toUInt64 >>> (y.toInt64.toUInt64 &&& Int64.toUInt64 63)).toInt64) :: st) h mc ms Q) : Ev g M d pc ls (.int y :: .long x :: st) h mc ms Q := by
  subst hn
  intro p e s m args below meth c H locs cells slots lsA tc ts hM hS hL h1 h2
  exact lv_lushr hM.1 hM.2.1 hd rfl (k p e s m args below meth c H locs cells slots lsA tc ts hM hS hL h1 h2)
theorem ev_lshl {x : Int64} {y : Int32} (n : Nat) (hd : decode (mC M) pc = .ok (.lshl, 1)) (hn : pc + 1 = n) (k : Ev g M d n ls (.long (x <<< (y.toInt64 &&& 63)) :: st) h mc ms Q) : Ev g M d pc ls (.int y :: .long x :: st) h mc ms Q := by
  subst hn
  intro p e s m args below meth c H locs cells slots lsA tc ts hM hS hL h1 h2
  exact lv_lshl hM.1 hM.2.1 hd rfl (k p e s m args below meth c H locs cells slots lsA tc ts hM hS hL h1 h2)
theorem ev_lcmp {x y : Int64} (n : Nat) (hd : decode (mC M) pc = .ok (.lcmp, 1)) (hn : pc + 1 = n) (k : Ev g M d n ls (.int (lg_cmp x y) :: st) h mc ms Q) : Ev g M d pc ls (.long y :: .long x :: st) h mc ms Q := by
  subst hn
  intro p e s m args below meth c H locs cells slots lsA tc ts hM hS hL h1 h2
  exact W.lcmp hM.1 hM.2.1 hd (k p e s m args below meth c H locs cells slots lsA tc ts hM hS hL h1 h2)
theorem ev_i2l {x : Int32} (n : Nat) (hd : decode (mC M) pc = .ok (.i2l, 1)) (hn : pc + 1 = n) (k : Ev g M d n ls (.long x.toInt64 :: st) h mc ms Q) : Ev g M d pc ls (.int x :: st) h mc ms Q := by
  subst hn
  intro p e s m args below meth c H locs cells slots lsA tc ts hM hS hL h1 h2
  exact lv_i2l hM.1 hM.2.1 hd rfl (k p e s m args below meth c H locs cells slots lsA tc ts hM hS hL h1 h2)
theorem ev_i2c {x : Int32} (n : Nat) (hd : decode (mC M) pc = .ok (.i2c, 1)) (hn : pc + 1 = n) (k : Ev g M d n ls (.int ((x.toUInt32 % 65536).toInt32) :: st) h mc ms Q) : Ev g M d pc ls (.int x :: st) h mc ms Q := by
  subst hn
  intro p e s m args below meth c H locs cells slots lsA tc ts hM hS hL h1 h2
  exact lv_i2c hM.1 hM.2.1 hd rfl (k p e s m args below meth c H locs cells slots lsA tc ts hM hS hL h1 h2)
theorem ev_i2d {x : Int32} (n : Nat) (hd : decode (mC M) pc = .ok (.i2d, 1)) (hn : pc + 1 = n) (k : Ev g M d n ls (.double (FP.i2d x) :: st) h mc ms Q) : Ev g M d pc ls (.int x :: st) h mc ms Q := by
  subst hn
  intro p e s m args below meth c H locs cells slots lsA tc ts hM hS hL h1 h2
  exact lv_i2d hM.1 hM.2.1 hd (k p e s m args below meth c H locs cells slots lsA tc ts hM hS hL h1 h2)
theorem ev_i2f {x : Int32} (n : Nat) (hd : decode (mC M) pc = .ok (.i2f, 1)) (hn : pc + 1 = n) (k : Ev g M d n ls (.float (FP.i2f x) :: st) h mc ms Q) : Ev g M d pc ls (.int x :: st) h mc ms Q := by
  subst hn
  intro p e s m args below meth c H locs cells slots lsA tc ts hM hS hL h1 h2
  exact lv_i2f hM.1 hM.2.1 hd (k p e s m args below meth c H locs cells slots lsA tc ts hM hS hL h1 h2)
theorem ev_f2d {x : UInt32} (n : Nat) (hd : decode (mC M) pc = .ok (.f2d, 1)) (hne : vf_n64 (FP.f2d x)) (hn : pc + 1 = n) (k : Ev g M d n ls (.double (FP.f2d x) :: st) h mc ms Q) : Ev g M d pc ls (.float x :: st) h mc ms Q := by
  subst hn
  intro p e s m args below meth c H locs cells slots lsA tc ts hM hS hL h1 h2
  exact lv_f2d hM.1 hM.2.1 hd hne (k p e s m args below meth c H locs cells slots lsA tc ts hM hS hL h1 h2)
theorem ev_ddiv {x y : UInt64} (n : Nat) (hd : decode (mC M) pc = .ok (.ddiv, 1)) (hne : vf_n64 (FP.ddiv x y)) (hn : pc + 1 = n) (k : Ev g M d n ls (.double (FP.ddiv x y) :: st) h mc ms Q) : Ev g M d pc ls (.double y :: .double x :: st) h mc ms Q := by
  subst hn
  intro p e s m args below meth c H locs cells slots lsA tc ts hM hS hL h1 h2
  exact lv_ddiv hM.1 hM.2.1 hd hne (k p e s m args below meth c H locs cells slots lsA tc ts hM hS hL h1 h2)
theorem ev_fdiv {x y : UInt32} (n : Nat) (hd : decode (mC M) pc = .ok (.fdiv, 1)) (hne : vf_n32 (FP.fdiv x y)) (hn : pc + 1 = n) (k : Ev g M d n ls (.float (FP.fdiv x y) :: st) h mc ms Q) : Ev g M d pc ls (.float y :: .float x :: st) h mc ms Q := by
  subst hn
  intro p e s m args below meth c H locs cells slots lsA tc ts hM hS hL h1 h2
  exact lv_fdiv hM.1 hM.2.1 hd hne (k p e s m args below meth c H locs cells slots lsA tc ts hM hS hL h1 h2)
theorem ev_dcmp {x y : UInt64} {op : CmpOp} (n : Nat) (hd : decode (mC M) pc = .ok (.dcmp op, 1)) (hn : pc + 1 = n) (k : Ev g M d n ls (.int (Op.cmpValue (FP.dcmp x y) op) :: st) h mc ms Q) : Ev g M d pc ls (.double y :: .double x :: st) h mc ms Q := by
  subst hn
  intro p e s m args below meth c H locs cells slots lsA tc ts hM hS hL h1 h2
  exact lv_dcmp hM.1 hM.2.1 hd (k p e s m args below meth c H locs cells slots lsA tc ts hM hS hL h1 h2)
theorem ev_fcmp {x y : UInt32} {op : CmpOp} (n : Nat) (hd : decode (mC M) pc = .ok (.fcmp op, 1)) (hn : pc + 1 = n) (k : Ev g M d n ls (.int (Op.cmpValue (FP.fcmp x y) op) :: st) h mc ms Q) : Ev g M d pc ls (.float y :: .float x :: st) h mc ms Q := by
  subst hn
  intro p e s m args below meth c H locs cells slots lsA tc ts hM hS hL h1 h2
  exact lv_fcmp hM.1 hM.2.1 hd (k p e s m args below meth c H locs cells slots lsA tc ts hM hS hL h1 h2)
theorem ev_fconst0 (n : Nat) (hd : decode (mC M) pc = .ok (.fconst 0, 1)) (hn : pc + 1 = n) (k : Ev g M d n ls (.float FP.fconst0 :: st) h mc ms Q) : Ev g M d pc ls (st) h mc ms Q := by
  subst hn
  intro p e s m args below meth c H locs cells slots lsA tc ts hM hS hL h1 h2
  exact lv_fconst0 hM.1 hM.2.1 hd (k p e s m args below meth c H locs cells slots lsA tc ts hM hS hL h1 h2)
theorem ev_dconst0 (n : Nat) (hd : decode (mC M) pc = .ok (.dconst 0, 1)) (hn : pc + 1 = n) (k : Ev g M d n ls (.double FP.dconst0 :: st) h mc ms Q) : Ev g M d pc ls (st) h mc ms Q := by
  subst hn
  intro p e s m args below meth c H locs cells slots lsA tc ts hM hS hL h1 h2
  exact lv_dconst0 hM.1 hM.2.1 hd (k p e s m args below meth c H locs cells slots lsA tc ts hM hS hL h1 h2)
theorem ev_iconst {z : Int} (v : Int32) (n : Nat) (hd : decode (mC M) pc = .ok (.iconst z, 1)) (hv : Int32.ofInt z = v) (hn : pc + 1 = n) (k : Ev g M d n ls (.int v :: st) h mc ms Q) : Ev g M d pc ls (st) h mc ms Q := by
  subst hn
  intro p e s m args below meth c H locs cells slots lsA tc ts hM hS hL h1 h2
  exact lv_iconst hM.1 hM.2.1 hd hv (k p e s m args below meth c H locs cells slots lsA tc ts hM hS hL h1 h2)
theorem ev_bipush {z : Int} (v : Int32) (n : Nat) (hd : decode (mC M) pc = .ok (.bipush z, 2)) (hv : (Int8.ofInt z).toInt32 = v) (hn : pc + 2 = n) (k : Ev g M d n ls (.int v :: st) h mc ms Q) : Ev g M d pc ls (st) h mc ms Q := by
  subst hn
  intro p e s m args below meth c H locs cells slots lsA tc ts hM hS hL h1 h2
  exact lv_bipush hM.1 hM.2.1 hd hv (k p e s m args below meth c H locs cells slots lsA tc ts hM hS hL h1 h2)
theorem ev_sipush {z : Int} (v : Int32) (n : Nat) (hd : decode (mC M) pc = .ok (.sipush z, 3)) (hv : (Int16.ofInt z).toInt32 = v) (hn : pc + 3 = n) (k : Ev g M d n ls (.int v :: st) h mc ms Q) : Ev g M d pc ls (st) h mc ms Q := by
  subst hn
  intro p e s m args below meth c H locs cells slots lsA tc ts hM hS hL h1 h2
  exact lv_sipush hM.1 hM.2.1 hd hv (k p e s m args below meth c H locs cells slots lsA tc ts hM hS hL h1 h2)
theorem ev_lconst {z : Fin 2} (v : Int64) (n : Nat) (hd : decode (mC M) pc = .ok (.lconst z, 1)) (hv : Int64.ofNat (z : Nat) = v) (hn : pc + 1 = n) (k : Ev g M d n ls (.long v :: st) h mc ms Q) : Ev g M d pc ls (st) h mc ms Q := by
  subst hn
  intro p e s m args below meth c H locs cells slots lsA tc ts hM hS hL h1 h2
  exact lv_lconst hM.1 hM.2.1 hd hv (k p e s m args below meth c H locs cells slots lsA tc ts hM hS hL h1 h2)
theorem ev_dup {v : Value} (n : Nat) (hd : decode (mC M) pc = .ok (.dup, 1)) (hv : v.category = 1) (hn : pc + 1 = n) (k : Ev g M d n ls (v :: v :: st) h mc ms Q) : Ev g M d pc ls (v :: st) h mc ms Q := by
  subst hn
  intro p e s m args below meth c H locs cells slots lsA tc ts hM hS hL h1 h2
  exact lv_dup hM.1 hM.2.1 hd hv (k p e s m args below meth c H locs cells slots lsA tc ts hM hS hL h1 h2)
theorem ev_pop {v : Value} (n : Nat) (hd : decode (mC M) pc = .ok (.pop, 1)) (hv : v.category = 1) (hn : pc + 1 = n) (k : Ev g M d n ls (st) h mc ms Q) : Ev g M d pc ls (v :: st) h mc ms Q := by
  subst hn
  intro p e s m args below meth c H locs cells slots lsA tc ts hM hS hL h1 h2
  exact lv_pop hM.1 hM.2.1 hd hv (k p e s m args below meth c H locs cells slots lsA tc ts hM hS hL h1 h2)
theorem ev_dup2 {v w : Value} (n : Nat) (hd : decode (mC M) pc = .ok (.dup2, 1)) (hv : v.category = 1) (hw : w.category = 1) (hn : pc + 1 = n) (k : Ev g M d n ls (v :: w :: v :: w :: st) h mc ms Q) : Ev g M d pc ls (v :: w :: st) h mc ms Q := by
  subst hn
  intro p e s m args below meth c H locs cells slots lsA tc ts hM hS hL h1 h2
  exact lv_dup2_11 hM.1 hM.2.1 hd hv hw (k p e s m args below meth c H locs cells slots lsA tc ts hM hS hL h1 h2)
theorem ev_goto {off : Int} (n : Nat) (hd : decode (mC M) pc = .ok (.goto off, 3)) (hn : (pc : Int) + off = (n : Int)) (k : Ev g M d n ls st h mc ms Q) : Ev g M d pc ls st h mc ms Q := by
  intro p e s m args below meth c H locs cells slots lsA tc ts hM hS hL h1 h2
  exact lv_goto hM.1 hM.2.1 hd hn (k p e s m args below meth c H locs cells slots lsA tc ts hM hS hL h1 h2)
theorem ev_if_eq {x : Int32} {off : Int} (t n : Nat) (hd : decode (mC M) pc = .ok (.ifCond .eq off, 3)) (ht : (pc : Int) + off = (t : Int)) (hn : pc + 3 = n) (kt : x = 0 → Ev g M d t ls st h mc ms Q) (kf : ¬ x = 0 → Ev g M d n ls st h mc ms Q) : Ev g M d pc ls (.int x :: st) h mc ms Q := by
  subst hn
  intro p e s m args below meth c H locs cells slots lsA tc ts hM hS hL h1 h2
  exact lv_if_eq hM.1 hM.2.1 hd ht (fun z => kt z p e s m args below meth c H locs cells slots lsA tc ts hM hS hL h1 h2) (fun z => kf z p e s m args below meth c H locs cells slots lsA tc ts hM hS hL h1 h2)
theorem ev_icmp_eq {x y : Int32} {off : Int} (t n : Nat) (hd : decode (mC M) pc = .ok (.if_icmp .eq off, 3)) (ht : (pc : Int) + off = (t : Int)) (hn : pc + 3 = n) (kt : x = y → Ev g M d t ls st h mc ms Q) (kf : ¬ x = y → Ev g M d n ls st h mc ms Q) : Ev g M d pc ls (.int y :: .int x :: st) h mc ms Q := by
  subst hn
  intro p e s m args below meth c H locs cells slots lsA tc ts hM hS hL h1 h2
  exact lv_icmp_eq hM.1 hM.2.1 hd ht (fun z => kt z p e s m args below meth c H locs cells slots lsA tc ts hM hS hL h1 h2) (fun z => kf z p e s m args below meth c H locs cells slots lsA tc ts hM hS hL h1 h2)
theorem ev_if_ne {x : Int32} {off : Int} (t n : Nat) (hd : decode (mC M) pc = .ok (.ifCond .ne off, 3)) (ht : (pc : Int) + off = (t : Int)) (hn : pc + 3 = n) (kt : ¬ x = 0 → Ev g M d t ls st h mc ms Q) (kf : x = 0 → Ev g M d n ls st h mc ms Q) : Ev g M d pc ls (.int x :: st) h mc ms Q := by
  subst hn
  intro p e s m args below meth c H locs cells slots lsA tc ts hM hS hL h1 h2
  exact lv_if_ne hM.1 hM.2.1 hd ht (fun z => kt z p e s m args below meth c H locs cells slots lsA tc ts hM hS hL h1 h2) (fun z => kf z p e s m args below meth c H locs cells slots lsA tc ts hM hS hL h1 h2)
theorem ev_icmp_ne {x y : Int32} {off : Int} (t n : Nat) (hd : decode (mC M) pc = .ok (.if_icmp .ne off, 3)) (ht : (pc : Int) + off = (t : Int)) (hn : pc + 3 = n) (kt : ¬ x = y → Ev g M d t ls st h mc ms Q) (kf : x = y → Ev g M d n ls st h mc ms Q) : Ev g M d pc ls (.int y :: .int x :: st) h mc ms Q := by
  subst hn
  intro p e s m args below meth c H locs cells slots lsA tc ts hM hS hL h1 h2
  exact lv_icmp_ne hM.1 hM.2.1 hd ht (fun z => kt z p e s m args below meth c H locs cells slots lsA tc ts hM hS hL h1 h2) (fun z => kf z p e s m args below meth c H locs cells slots lsA tc ts hM hS hL h1 h2)
theorem ev_if_lt {x : Int32} {off : Int} (t n : Nat) (hd : decode (mC M) pc = .ok (.ifCond .lt off, 3)) (ht : (pc : Int) + off = (t : Int)) (hn : pc + 3 = n) (kt : x < 0 → Ev g M d t ls st h mc ms Q) (kf : ¬ x < 0 → Ev g M d n ls st h mc ms Q) : Ev g M d pc ls (.int x :: st) h mc ms Q := by
  subst hn
  intro p e s m args below meth c H locs cells slots lsA tc ts hM hS hL h1 h2
  exact lv_if_lt hM.1 hM.2.1 hd ht (fun z => kt z p e s m args below meth c H locs cells slots lsA tc ts hM hS hL h1 h2) (fun z => kf z p e s m args below meth c H locs cells slots lsA tc ts hM hS hL h1 h2)
theorem ev_icmp_lt {x y : Int32} {off : Int} (t n : Nat) (hd : decode (mC M) pc = .ok (.if_icmp .lt off, 3)) (ht : (pc : Int) + off = (t : Int)) (hn : pc + 3 = n) (kt : x < y → Ev g M d t ls st h mc ms Q) (kf : ¬ x < y → Ev g M d n ls st h mc ms Q) : Ev g M d pc ls (.int y :: .int x :: st) h mc ms Q := by
  subst hn
  intro p e s m args below meth c H locs cells slots lsA tc ts hM hS hL h1 h2
  exact lv_icmp_lt hM.1 hM.2.1 hd ht (fun z => kt z p e s m args below meth c H locs cells slots lsA tc ts hM hS hL h1 h2) (fun z => kf z p e s m args below meth c H locs cells slots lsA tc ts hM hS hL h1 h2)
theorem ev_if_ge {x : Int32} {off : Int} (t n : Nat) (hd : decode (mC M) pc = .ok (.ifCond .ge off, 3)) (ht : (pc : Int) + off = (t : Int)) (hn : pc + 3 = n) (kt : 0 ≤ x → Ev g M d t ls st h mc ms Q) (kf : ¬ 0 ≤ x → Ev g M d n ls st h mc ms Q) : Ev g M d pc ls (.int x :: st) h mc ms Q := by
  subst hn
  intro p e s m args below meth c H locs cells slots lsA tc ts hM hS hL h1 h2
  exact lv_if_ge hM.1 hM.2.1 hd ht (fun z => kt z p e s m args below meth c H locs cells slots lsA tc ts hM hS hL h1 h2) (fun z => kf z p e s m args below meth c H locs cells slots lsA tc ts hM hS hL h1 h2)
theorem ev_icmp_ge {x y : Int32} {off : Int} (t n : Nat) (hd : decode (mC M) pc = .ok (.if_icmp .ge off, 3)) (ht : (pc : Int) + off = (t : Int)) (hn : pc + 3 = n) (kt : y ≤ x → Ev g M d t ls st h mc ms Q) (kf : ¬ y ≤ x → Ev g M d n ls st h mc ms Q) : Ev g M d pc ls (.int y :: .int x :: st) h mc ms Q := by
  subst hn
  intro p e s m args below meth c H locs cells slots lsA tc ts hM hS hL h1 h2
  exact lv_icmp_ge hM.1 hM.2.1 hd ht (fun z => kt z p e s m args below meth c H locs cells slots lsA tc ts hM hS hL h1 h2) (fun z => kf z p e s m args below meth c H locs cells slots lsA tc ts hM hS hL h1 h2)
theorem ev_if_gt {x : Int32} {off : Int} (t n : Nat) (hd : decode (mC M) pc = .ok (.ifCond .gt off, 3)) (ht : (pc : Int) + off = (t : Int)) (hn : pc + 3 = n) (kt : 0 < x → Ev g M d t ls st h mc ms Q) (kf : ¬ 0 < x → Ev g M d n ls st h mc ms Q) : Ev g M d pc ls (.int x :: st) h mc ms Q := by
  subst hn
  intro p e s m args below meth c H locs cells slots lsA tc ts hM hS hL h1 h2
  exact lv_if_gt hM.1 hM.2.1 hd ht (fun z => kt z p e s m args below meth c H locs cells slots lsA tc ts hM hS hL h1 h2) (fun z => kf z p e s m args below meth c H locs cells slots lsA tc ts hM hS hL h1 h2)
theorem ev_icmp_gt {x y : Int32} {off : Int} (t n : Nat) (hd : decode (mC M) pc = .ok (.if_icmp .gt off, 3)) (ht : (pc : Int) + off = (t : Int)) (hn : pc + 3 = n) (kt : y < x → Ev g M d t ls st h mc ms Q) (kf : ¬ y < x → Ev g M d n ls st h mc ms Q) : Ev g M d pc ls (.int y :: .int x :: st) h mc ms Q := by
  subst hn
  intro p e s m args below meth c H locs cells slots lsA tc ts hM hS hL h1 h2
  exact lv_icmp_gt hM.1 hM.2.1 hd ht (fun z => kt z p e s m args below meth c H locs cells slots lsA tc ts hM hS hL h1 h2) (fun z => kf z p e s m args below meth c H locs cells slots lsA tc ts hM hS hL h1 h2)
theorem ev_if_le {x : Int32} {off : Int} (t n : Nat) (hd : decode (mC M) pc = .ok (.ifCond .le off, 3)) (ht : (pc : Int) + off = (t : Int)) (hn : pc + 3 = n) (kt : x ≤ 0 → Ev g M d t ls st h mc ms Q) (kf : ¬ x ≤ 0 → Ev g M d n ls st h mc ms Q) : Ev g M d pc ls (.int x :: st) h mc ms Q := by
  subst hn
  intro p e s m args below meth c H locs cells slots lsA tc ts hM hS hL h1 h2
  exact lv_if_le hM.1 hM.2.1 hd ht (fun z => kt z p e s m args below meth c H locs cells slots lsA tc ts hM hS hL h1 h2) (fun z => kf z p e s m args below meth c H locs cells slots lsA tc ts hM hS hL h1 h2)
theorem ev_icmp_le {x y : Int32} {off : Int} (t n : Nat) (hd : decode (mC M) pc = .ok (.if_icmp .le off, 3)) (ht : (pc : Int) + off = (t : Int)) (hn : pc + 3 = n) (kt : x ≤ y → Ev g M d t ls st h mc ms Q) (kf : ¬ x ≤ y → Ev g M d n ls st h mc ms Q) : Ev g M d pc ls (.int y :: .int x :: st) h mc ms Q := by
  subst hn
  intro p e s m args below meth c H locs cells slots lsA tc ts hM hS hL h1 h2
  exact lv_icmp_le hM.1 hM.2.1 hd ht (fun z => kt z p e s m args below meth c H locs cells slots lsA tc ts hM hS hL h1 h2) (fun z => kf z p e s m args below meth c H locs cells slots lsA tc ts hM hS hL h1 h2)
theorem ev_acmp_eq {rx ry : Option Nat} {off : Int} (t n : Nat) (hd : decode (mC M) pc = .ok (.if_acmp .eq off, 3)) (ht : (pc : Int) + off = (t : Int)) (hn : pc + 3 = n) (kt : rx = ry → Ev g M d t ls st h mc ms Q) (kf : ¬ rx = ry → Ev g M d n ls st h mc ms Q) : Ev g M d pc ls (va_rf ry :: va_rf rx :: st) h mc ms Q := by
  subst hn
  intro p e s m args below meth c H locs cells slots lsA tc ts hM hS hL h1 h2
  exact lv_acmp_eq hM.1 hM.2.1 hd ht (fun z => kt z p e s m args below meth c H locs cells slots lsA tc ts hM hS hL h1 h2) (fun z => kf z p e s m args below meth c H locs cells slots lsA tc ts hM hS hL h1 h2)
theorem ev_acmp_ne {rx ry : Option Nat} {off : Int} (t n : Nat) (hd : decode (mC M) pc = .ok (.if_acmp .ne off, 3)) (ht : (pc : Int) + off = (t : Int)) (hn : pc + 3 = n) (kt : ¬ rx = ry → Ev g M d t ls st h mc ms Q) (kf : rx = ry → Ev g M d n ls st h mc ms Q) : Ev g M d pc ls (va_rf ry :: va_rf rx :: st) h mc ms Q := by
  subst hn
  intro p e s m args below meth c H locs cells slots lsA tc ts hM hS hL h1 h2
  exact lv_acmp_ne hM.1 hM.2.1 hd ht (fun z => kt z p e s m args below meth c H locs cells slots lsA tc ts hM hS hL h1 h2) (fun z => kf z p e s m args below meth c H locs cells slots lsA tc ts hM hS hL h1 h2)
theorem ev_iload {i : Nat} {x : Int32} (n : Nat) (hd : decode (mC M) pc = .ok (.iload i, 2)) (hl : ldL ls i = some (.int x)) (hn : pc + 2 = n) (k : Ev g M d n ls (.int x :: st) h mc ms Q) : Ev g M d pc ls st h mc ms Q := by
  subst hn
  intro p e s m args below meth c H locs cells slots lsA tc ts hM hS hL h1 h2
  exact lv_iload hM.1 hM.2.1 hd (hL.2.2 _ _ hl) (k p e s m args below meth c H locs cells slots lsA tc ts hM hS hL h1 h2)
theorem ev_iload_n {i : Fin 4} {x : Int32} (n : Nat) (hd : decode (mC M) pc = .ok (.iload_n i, 1)) (hl : ldL ls i.val = some (.int x)) (hn : pc + 1 = n) (k : Ev g M d n ls (.int x :: st) h mc ms Q) : Ev g M d pc ls st h mc ms Q := by
  subst hn
  intro p e s m args below meth c H locs cells slots lsA tc ts hM hS hL h1 h2
  exact lv_iload_n hM.1 hM.2.1 hd rfl (hL.2.2 _ _ hl) (k p e s m args below meth c H locs cells slots lsA tc ts hM hS hL h1 h2)
theorem ev_lload {i : Nat} {x : Int64} (n : Nat) (hd : decode (mC M) pc = .ok (.lload i, 2)) (hl : ldL ls i = some (.long x)) (hn : pc + 2 = n) (k : Ev g M d n ls (.long x :: st) h mc ms Q) : Ev g M d pc ls st h mc ms Q := by
  subst hn
  intro p e s m args below meth c H locs cells slots lsA tc ts hM hS hL h1 h2
  exact lv_lload hM.1 hM.2.1 hd (hL.2.2 _ _ hl) (k p e s m args below meth c H locs cells slots lsA tc ts hM hS hL h1 h2)
theorem ev_lload_n {i : Fin 4} {x : Int64} (n : Nat) (hd : decode (mC M) pc = .ok (.lload_n i, 1)) (hl : ldL ls i.val = some (.long x)) (hn : pc + 1 = n) (k : Ev g M d n ls (.long x :: st) h mc ms Q) : Ev g M d pc ls st h mc ms Q := by
  subst hn
  intro p e s m args below meth c H locs cells slots lsA tc ts hM hS hL h1 h2
  exact lv_lload_n hM.1 hM.2.1 hd rfl (hL.2.2 _ _ hl) (k p e s m args below meth c H locs cells slots lsA tc ts hM hS hL h1 h2)
theorem ev_aload {i : Nat} {x : Nat} (n : Nat) (hd : decode (mC M) pc = .ok (.aload i, 2)) (hl : ldL ls i = some (.ref x)) (hn : pc + 2 = n) (k : Ev g M d n ls (.ref x :: st) h mc ms Q) : Ev g M d pc ls st h mc ms Q := by
  subst hn
  intro p e s m args below meth c H locs cells slots lsA tc ts hM hS hL h1 h2
  exact lv_aload hM.1 hM.2.1 hd (hL.2.2 _ _ hl) (k p e s m args below meth c H locs cells slots lsA tc ts hM hS hL h1 h2)
theorem ev_aload_n {i : Fin 4} {x : Nat} (n : Nat) (hd : decode (mC M) pc = .ok (.aload_n i, 1)) (hl : ldL ls i.val = some (.ref x)) (hn : pc + 1 = n) (k : Ev g M d n ls (.ref x :: st) h mc ms Q) : Ev g M d pc ls st h mc ms Q := by
  subst hn
  intro p e s m args below meth c H locs cells slots lsA tc ts hM hS hL h1 h2
  exact lv_aload_n hM.1 hM.2.1 hd rfl (hL.2.2 _ _ hl) (k p e s m args below meth c H locs cells slots lsA tc ts hM hS hL h1 h2)
theorem ev_fload {i : Nat} {x : UInt32} (n : Nat) (hd : decode (mC M) pc = .ok (.fload i, 2)) (hl : ldL ls i = some (.float x)) (hn : pc + 2 = n) (k : Ev g M d n ls (.float x :: st) h mc ms Q) : Ev g M d pc ls st h mc ms Q := by
  subst hn
  intro p e s m args below meth c H locs cells slots lsA tc ts hM hS hL h1 h2
  exact lv_fload hM.1 hM.2.1 hd (hL.2.2 _ _ hl) (k p e s m args below meth c H locs cells slots lsA tc ts hM hS hL h1 h2)
theorem ev_fload_n {i : Fin 4} {x : UInt32} (n : Nat) (hd : decode (mC M) pc = .ok (.fload_n i, 1)) (hl : ldL ls i.val = some (.float x)) (hn : pc + 1 = n) (k : Ev g M d n ls (.float x :: st) h mc ms Q) : Ev g M d pc ls st h mc ms Q := by
  subst hn
  intro p e s m args below meth c H locs cells slots lsA tc ts hM hS hL h1 h2
  exact lv_fload_n hM.1 hM.2.1 hd rfl (hL.2.2 _ _ hl) (k p e s m args below meth c H locs cells slots lsA tc ts hM hS hL h1 h2)
theorem ev_dload {i : Nat} {x : UInt64} (n : Nat) (hd : decode (mC M) pc = .ok (.dload i, 2)) (hl : ldL ls i = some (.double x)) (hn : pc + 2 = n) (k : Ev g M d n ls (.double x :: st) h mc ms Q) : Ev g M d pc ls st h mc ms Q := by
  subst hn
  intro p e s m args below meth c H locs cells slots lsA tc ts hM hS hL h1 h2
  exact lv_dload hM.1 hM.2.1 hd (hL.2.2 _ _ hl) (k p e s m args below meth c H locs cells slots lsA tc ts hM hS hL h1 h2)
theorem ev_dload_n {i : Fin 4} {x : UInt64} (n : Nat) (hd : decode (mC M) pc = .ok (.dload_n i, 1)) (hl : ldL ls i.val = some (.double x)) (hn : pc + 1 = n) (k : Ev g M d n ls (.double x :: st) h mc ms Q) : Ev g M d pc ls st h mc ms Q := by
  subst hn
  intro p e s m args below meth c H locs cells slots lsA tc ts hM hS hL h1 h2
  exact lv_dload_n hM.1 hM.2.1 hd rfl (hL.2.2 _ _ hl) (k p e s m args below meth c H locs cells slots lsA tc ts hM hS hL h1 h2)
theorem ev_istore {i : Nat} {x : Int32} {ls2 : List (Option Value)} (n : Nat) (hd : decode (mC M) pc = .ok (.istore i, 2)) (hs : stL ls i (.int x) = ls2) (hi : i < mL M) (hn : pc + 2 = n) (k : Ev g M d n ls2 st h mc ms Q) : Ev g M d pc ls (.int x :: st) h mc ms Q := by
  subst hn
  subst hs
  intro p e s m args below meth c H locs cells slots lsA tc ts hM hS hL h1 h2
  exact lv_istore hM.1 hM.2.1 hd hL.has hi rfl (fun lsA hL => k p e s m args below meth c H locs cells slots lsA tc ts hM hS (LX.st1 rfl hL) h1 h2)
theorem ev_istore_n {i : Fin 4} {x : Int32} {ls2 : List (Option Value)} (n : Nat) (hd : decode (mC M) pc = .ok (.istore_n i, 1)) (hs : stL ls i.val (.int x) = ls2) (hi : i.val < mL M) (hn : pc + 1 = n) (k : Ev g M d n ls2 st h mc ms Q) : Ev g M d pc ls (.int x :: st) h mc ms Q := by
  subst hn
  subst hs
  intro p e s m args below meth c H locs cells slots lsA tc ts hM hS hL h1 h2
  exact lv_istore_n hM.1 hM.2.1 hd rfl hL.has hi rfl (fun lsA hL => k p e s m args below meth c H locs cells slots lsA tc ts hM hS (LX.st1 rfl hL) h1 h2)
theorem ev_lstore {i : Nat} {x : Int64} {ls2 : List (Option Value)} (n : Nat) (hd : decode (mC M) pc = .ok (.lstore i, 2)) (hs : stL ls i (.long x) = ls2) (hi : i + 1 < mL M) (hn : pc + 2 = n) (k : Ev g M d n ls2 st h mc ms Q) : Ev g M d pc ls (.long x :: st) h mc ms Q := by
  subst hn
  subst hs
  intro p e s m args below meth c H locs cells slots lsA tc ts hM hS hL h1 h2
  exact lv_lstore hM.1 hM.2.1 hd hL.has hi rfl (fun lsA hL => k p e s m args below meth c H locs cells slots lsA tc ts hM hS (LX.st2 rfl hL) h1 h2)
theorem ev_lstore_n {i : Fin 4} {x : Int64} {ls2 : List (Option Value)} (n : Nat) (hd : decode (mC M) pc = .ok (.lstore_n i, 1)) (hs : stL ls i.val (.long x) = ls2) (hi : i.val + 1 < mL M) (hn : pc + 1 = n) (k : Ev g M d n ls2 st h mc ms Q) : Ev g M d pc ls (.long x :: st) h mc ms Q := by
  subst hn
  subst hs
  intro p e s m args below meth c H locs cells slots lsA tc ts hM hS hL h1 h2
  exact lv_lstore_n hM.1 hM.2.1 hd rfl hL.has hi rfl (fun lsA hL => k p e s m args below meth c H locs cells slots lsA tc ts hM hS (LX.st2 rfl hL) h1 h2)
theorem ev_astore {i : Nat} {x : Nat} {ls2 : List (Option Value)} (n : Nat) (hd : decode (mC M) pc = .ok (.astore i, 2)) (hs : stL ls i (.ref x) = ls2) (hi : i < mL M) (hn : pc + 2 = n) (k : Ev g M d n ls2 st h mc ms Q) : Ev g M d pc ls (.ref x :: st) h mc ms Q := by
  subst hn
  subst hs
  intro p e s m args below meth c H locs cells slots lsA tc ts hM hS hL h1 h2
  exact lv_astore hM.1 hM.2.1 hd hL.has hi rfl (fun lsA hL => k p e s m args below meth c H locs cells slots lsA tc ts hM hS (LX.st1 rfl hL) h1 h2)
theorem ev_astore_n {i : Fin 4} {x : Nat} {ls2 : List (Option Value)} (n : Nat) (hd : decode (mC M) pc = .ok (.astore_n i, 1)) (hs : stL ls i.val (.ref x) = ls2) (hi : i.val < mL M) (hn : pc + 1 = n) (k : Ev g M d n ls2 st h mc ms Q) : Ev g M d pc ls (.ref x :: st) h mc ms Q := by
  subst hn
  subst hs
  intro p e s m args below meth c H locs cells slots lsA tc ts hM hS hL h1 h2
  exact lv_astore_n hM.1 hM.2.1 hd rfl hL.has hi rfl (fun lsA hL => k p e s m args below meth c H locs cells slots lsA tc ts hM hS (LX.st1 rfl hL) h1 h2)
theorem ev_fstore {i : Nat} {x : UInt32} {ls2 : List (Option Value)} (n : Nat) (hd : decode (mC M) pc = .ok (.fstore i, 2)) (hs : stL ls i (.float x) = ls2) (hi : i < mL M) (hn : pc + 2 = n) (k : Ev g M d n ls2 st h mc ms Q) : Ev g M d pc ls (.float x :: st) h mc ms Q := by
  subst hn
  subst hs
  intro p e s m args below meth c H locs cells slots lsA tc ts hM hS hL h1 h2
  exact lv_fstore hM.1 hM.2.1 hd hL.has hi rfl (fun lsA hL => k p e s m args below meth c H locs cells slots lsA tc ts hM hS (LX.st1 rfl hL) h1 h2)
theorem ev_fstore_n {i : Fin 4} {x : UInt32} {ls2 : List (Option Value)} (n : Nat) (hd : decode (mC M) pc = .ok (.fstore_n i, 1)) (hs : stL ls i.val (.float x) = ls2) (hi : i.val < mL M) (hn : pc + 1 = n) (k : Ev g M d n ls2 st h mc ms Q) : Ev g M d pc ls (.float x :: st) h mc ms Q := by
  subst hn
  subst hs
  intro p e s m args below meth c H locs cells slots lsA tc ts hM hS hL h1 h2
  exact lv_fstore_n hM.1 hM.2.1 hd rfl hL.has hi rfl (fun lsA hL => k p e s m args below meth c H locs cells slots lsA tc ts hM hS (LX.st1 rfl hL) h1 h2)
theorem ev_dstore {i : Nat} {x : UInt64} {ls2 : List (Option Value)} (n : Nat) (hd : decode (mC M) pc = .ok (.dstore i, 2)) (hs : stL ls i (.double x) = ls2) (hi : i + 1 < mL M) (hn : pc + 2 = n) (k : Ev g M d n ls2 st h mc ms Q) : Ev g M d pc ls (.double x :: st) h mc ms Q := by
  subst hn
  subst hs
  intro p e s m args below meth c H locs cells slots lsA tc ts hM hS hL h1 h2
  exact lv_dstore hM.1 hM.2.1 hd hL.has hi rfl (fun lsA hL => k p e s m args below meth c H locs cells slots lsA tc ts hM hS (LX.st2 rfl hL) h1 h2)
theorem ev_dstore_n {i : Fin 4} {x : UInt64} {ls2 : List (Option Value)} (n : Nat) (hd : decode (mC M) pc = .ok (.dstore_n i, 1)) (hs : stL ls i.val (.double x) = ls2) (hi : i.val + 1 < mL M) (hn : pc + 1 = n) (k : Ev g M d n ls2 st h mc ms Q) : Ev g M d pc ls (.double x :: st) h mc ms Q := by
  subst hn
  subst hs
  intro p e s m args below meth c H locs cells slots lsA tc ts hM hS hL h1 h2
  exact lv_dstore_n hM.1 hM.2.1 hd rfl hL.has hi rfl (fun lsA hL => k p e s m args below meth c H locs cells slots lsA tc ts hM hS (LX.st2 rfl hL) h1 h2)
theorem ev_iinc {i : Nat} {z : Int} {x : Int32} {ls2 : List (Option Value)} (n : Nat) (hd : decode (mC M) pc = .ok (.iinc i z, 3)) (hl : ldL ls i = some (.int x)) (hs : stL ls i (.int (x + Int32.ofInt z)) = ls2) (hi : i < mL M) (hn : pc + 3 = n) (k : Ev g M d n ls2 st h mc ms Q) : Ev g M d pc ls st h mc ms Q := by
  subst hn
  subst hs
  intro p e s m args below meth c H locs cells slots lsA tc ts hM hS hL h1 h2
  have hm := enL_mem ls 0 i _ hl
  rw [Nat.zero_add] at hm
  obtain ⟨k9, hk9⟩ := List.getElem?_of_mem hm
  exact lv_iinc hM.1 hM.2.1 hd hL.has hk9 rfl hi rfl (fun lsA hL => k p e s m args below meth c H locs cells slots lsA tc ts hM hS (LX.st1 rfl hL) h1 h2)
theorem ev_ild0 {x : Int32} {t : List (Option Value)} (n : Nat) (hd : decode (mC M) pc = .ok (.iload_n 0, 1)) (hn : pc + 1 = n) (k : Ev g M d n (some (.int x) :: t) (.int x :: st) h mc ms Q) : Ev g M d pc (some (.int x) :: t) st h mc ms Q := ev_iload_n n hd (by show ldL _ 0 = _; simp [ldL]) hn k
theorem ev_ist0 {a0 : Option Value} {x : Int32} {t : List (Option Value)} (n : Nat) (hd : decode (mC M) pc = .ok (.istore_n 0, 1)) (hi : 0 < mL M) (hn : pc + 1 = n) (k : Ev g M d n (some (.int x) :: t) st h mc ms Q) : Ev g M d pc (a0 :: t) (.int x :: st) h mc ms Q := ev_istore_n n hd (by show stL _ 0 _ = _; simp [stL, stG, Value.category, stG_far]) hi hn k
theorem ev_lld0 {x : Int64} {t : List (Option Value)} (n : Nat) (hd : decode (mC M) pc = .ok (.lload_n 0, 1)) (hn : pc + 1 = n) (k : Ev g M d n (some (.long x) :: t) (.long x :: st) h mc ms Q) : Ev g M d pc (some (.long x) :: t) st h mc ms Q := ev_lload_n n hd (by show ldL _ 0 = _; simp [ldL]) hn k
theorem ev_lst0 {a0 a1 : Option Value} {x : Int64} {t : List (Option Value)} (n : Nat) (hd : decode (mC M) pc = .ok (.lstore_n 0, 1)) (hi : 1 < mL M) (hn : pc + 1 = n) (k : Ev g M d n (some (.long x) :: none :: t) st h mc ms Q) : Ev g M d pc (a0 :: a1 :: t) (.long x :: st) h mc ms Q := ev_lstore_n n hd (by show stL _ 0 _ = _; simp [stL, stG, Value.category, stG_far]) hi hn k
theorem ev_ald0 {x : Nat} {t : List (Option Value)} (n : Nat) (hd : decode (mC M) pc = .ok (.aload_n 0, 1)) (hn : pc + 1 = n) (k : Ev g M d n (some (.ref x) :: t) (.ref x :: st) h mc ms Q) : Ev g M d pc (some (.ref x) :: t) st h mc ms Q := ev_aload_n n hd (by show ldL _ 0 = _; simp [ldL]) hn k
theorem ev_ast0 {a0 : Option Value} {x : Nat} {t : List (Option Value)} (n : Nat) (hd : decode (mC M) pc = .ok (.astore_n 0, 1)) (hi : 0 < mL M) (hn : pc + 1 = n) (k : Ev g M d n (some (.ref x) :: t) st h mc ms Q) : Ev g M d pc (a0 :: t) (.ref x :: st) h mc ms Q := ev_astore_n n hd (by show stL _ 0 _ = _; simp [stL, stG, Value.category, stG_far]) hi hn k
theorem ev_fld0 {x : UInt32} {t : List (Option Value)} (n : Nat) (hd : decode (mC M) pc = .ok (.fload_n 0, 1)) (hn : pc + 1 = n) (k : Ev g M d n (some (.float x) :: t) (.float x :: st) h mc ms Q) : Ev g M d pc (some (.float x) :: t) st h mc ms Q := ev_fload_n n hd (by show ldL _ 0 = _; simp [ldL]) hn k
theorem ev_fst0 {a0 : Option Value} {x : UInt32} {t : List (Option Value)} (n : Nat) (hd : decode (mC M) pc = .ok (.fstore_n 0, 1)) (hi : 0 < mL M) (hn : pc + 1 = n) (k : Ev g M d n (some (.float x) :: t) st h mc ms Q) : Ev g M d pc (a0 :: t) (.float x :: st) h mc ms Q := ev_fstore_n n hd (by show stL _ 0 _ = _; simp [stL, stG, Value.category, stG_far]) hi hn k
theorem ev_dld0 {x : UInt64} {t : List (Option Value)} (n : Nat) (hd : decode (mC M) pc = .ok (.dload_n 0, 1)) (hn : pc + 1 = n) (k : Ev g M d n (some (.double x) :: t) (.double x :: st) h mc ms Q) : Ev g M d pc (some (.double x) :: t) st h mc ms Q := ev_dload_n n hd (by show ldL _ 0 = _; simp [ldL]) hn k
theorem ev_dst0 {a0 a1 : Option Value} {x : UInt64} {t : List (Option Value)} (n : Nat) (hd : decode (mC M) pc = .ok (.dstore_n 0, 1)) (hi : 1 < mL M) (hn : pc + 1 = n) (k : Ev g M d n (some (.double x) :: none :: t) st h mc ms Q) : Ev g M d pc (a0 :: a1 :: t) (.double x :: st) h mc ms Q := ev_dstore_n n hd (by show stL _ 0 _ = _; simp [stL, stG, Value.category, stG_far]) hi hn k
theorem ev_inc0 {z : Int} {x : Int32} {t : List (Option Value)} (v : Int32) (n : Nat) (hd : decode (mC M) pc = .ok (.iinc 0 z, 3)) (hv : Int32.ofInt z = v) (hi : 0 < mL M) (hn : pc + 3 = n) (k : Ev g M d n (some (.int (x + v)) :: t) st h mc ms Q) : Ev g M d pc (some (.int x) :: t) st h mc ms Q := by
  subst hv
  exact ev_iinc (x := x) n hd (by simp [ldL]) (by show stL _ 0 _ = _; simp [stL, stG, Value.category, stG_far]) hi hn k
theorem ev_ild1 {a0 : Option Value} {x : Int32} {t : List (Option Value)} (n : Nat) (hd : decode (mC M) pc = .ok (.iload_n 1, 1)) (hn : pc + 1 = n) (k : Ev g M d n (a0 :: some (.int x) :: t) (.int x :: st) h mc ms Q) : Ev g M d pc (a0 :: some (.int x) :: t) st h mc ms Q := ev_iload_n n hd (by show ldL _ 1 = _; simp [ldL]) hn k
theorem ev_ist1 {a0 a1 : Option Value} {x : Int32} {t : List (Option Value)} (n : Nat) (hd : decode (mC M) pc = .ok (.istore_n 1, 1)) (hp : ca2 a0 = false) (hi : 1 < mL M) (hn : pc + 1 = n) (k : Ev g M d n (a0 :: some (.int x) :: t) st h mc ms Q) : Ev g M d pc (a0 :: a1 :: t) (.int x :: st) h mc ms Q := ev_istore_n n hd (by show stL _ 1 _ = _; simp [stL, stG, Value.category, stG_far, hp]) hi hn k
theorem ev_lld1 {a0 : Option Value} {x : Int64} {t : List (Option Value)} (n : Nat) (hd : decode (mC M) pc = .ok (.lload_n 1, 1)) (hn : pc + 1 = n) (k : Ev g M d n (a0 :: some (.long x) :: t) (.long x :: st) h mc ms Q) : Ev g M d pc (a0 :: some (.long x) :: t) st h mc ms Q := ev_lload_n n hd (by show ldL _ 1 = _; simp [ldL]) hn k
theorem ev_lst1 {a0 a1 a2 : Option Value} {x : Int64} {t : List (Option Value)} (n : Nat) (hd : decode (mC M) pc = .ok (.lstore_n 1, 1)) (hp : ca2 a0 = false) (hi : 2 < mL M) (hn : pc + 1 = n) (k : Ev g M d n (a0 :: some (.long x) :: none :: t) st h mc ms Q) : Ev g M d pc (a0 :: a1 :: a2 :: t) (.long x :: st) h mc ms Q := ev_lstore_n n hd (by show stL _ 1 _ = _; simp [stL, stG, Value.category, stG_far, hp]) hi hn k
theorem ev_ald1 {a0 : Option Value} {x : Nat} {t : List (Option Value)} (n : Nat) (hd : decode (mC M) pc = .ok (.aload_n 1, 1)) (hn : pc + 1 = n) (k : Ev g M d n (a0 :: some (.ref x) :: t) (.ref x :: st) h mc ms Q) : Ev g M d pc (a0 :: some (.ref x) :: t) st h mc ms Q := ev_aload_n n hd (by show ldL _ 1 = _; simp [ldL]) hn k
theorem ev_ast1 {a0 a1 : Option Value} {x : Nat} {t : List (Option Value)} (n : Nat) (hd : decode (mC M) pc = .ok (.astore_n 1, 1)) (hp : ca2 a0 = false) (hi : 1 < mL M) (hn : pc + 1 = n) (k : Ev g M d n (a0 :: some (.ref x) :: t) st h mc ms Q) : Ev g M d pc (a0 :: a1 :: t) (.ref x :: st) h mc ms Q := ev_astore_n n hd (by show stL _ 1 _ = _; simp [stL, stG, Value.category, stG_far, hp]) hi hn k
theorem ev_fld1 {a0 : Option Value} {x : UInt32} {t : List (Option Value)} (n : Nat) (hd : decode (mC M) pc = .ok (.fload_n 1, 1)) (hn : pc + 1 = n) (k : Ev g M d n (a0 :: some (.float x) :: t) (.float x :: st) h mc ms Q) : Ev g M d pc (a0 :: some (.float x) :: t) st h mc ms Q := ev_fload_n n hd (by show ldL _ 1 = _; simp [ldL]) hn k
theorem ev_fst1 {a0 a1 : Option Value} {x : UInt32} {t : List (Option Value)} (n : Nat) (hd : decode (mC M) pc = .ok (.fstore_n 1, 1)) (hp : ca2 a0 = false) (hi : 1 < mL M) (hn : pc + 1 = n) (k : Ev g M d n (a0 :: some (.float x) :: t) st h mc ms Q) : Ev g M d pc (a0 :: a1 :: t) (.float x :: st) h mc ms Q := ev_fstore_n n hd (by show stL _ 1 _ = _; simp [stL, stG, Value.category, stG_far, hp]) hi hn k
theorem ev_dld1 {a0 : Option Value} {x : UInt64} {t : List (Option Value)} (n : Nat) (hd : decode (mC M) pc = .ok (.dload_n 1, 1)) (hn : pc + 1 = n) (k : Ev g M d n (a0 :: some (.double x) :: t) (.double x :: st) h mc ms Q) : Ev g M d pc (a0 :: some (.double x) :: t) st h mc ms Q := ev_dload_n n hd (by show ldL _ 1 = _; simp [ldL]) hn k
theorem ev_dst1 {a0 a1 a2 : Option Value} {x : UInt64} {t : List (Option Value)} (n : Nat) (hd : decode (mC M) pc = .ok (.dstore_n 1, 1)) (hp : ca2 a0 = false) (hi : 2 < mL M) (hn : pc + 1 = n) (k : Ev g M d n (a0 :: some (.double x) :: none :: t) st h mc ms Q) : Ev g M d pc (a0 :: a1 :: a2 :: t) (.double x :: st) h mc ms Q := ev_dstore_n n hd (by show stL _ 1 _ = _; simp [stL, stG, Value.category, stG_far, hp]) hi hn k
theorem ev_inc1 {a0 : Option Value} {z : Int} {x : Int32} {t : List (Option Value)} (v : Int32) (n : Nat) (hd : decode (mC M) pc = .ok (.iinc 1 z, 3)) (hv : Int32.ofInt z = v) (hp : ca2 a0 = false) (hi : 1 < mL M) (hn : pc + 3 = n) (k : Ev g M d n (a0 :: some (.int (x + v)) :: t) st h mc ms Q) : Ev g M d pc (a0 :: some (.int x) :: t) st h mc ms Q := by
  subst hv
  exact ev_iinc (x := x) n hd (by simp [ldL]) (by show stL _ 1 _ = _; simp [stL, stG, Value.category, stG_far, hp]) hi hn k
theorem ev_ild2 {a0 a1 : Option Value} {x : Int32} {t : List (Option Value)} (n : Nat) (hd : decode (mC M) pc = .ok (.iload_n 2, 1)) (hn : pc + 1 = n) (k : Ev g M d n (a0 :: a1 :: some (.int x) :: t) (.int x :: st) h mc ms Q) : Ev g M d pc (a0 :: a1 :: some (.int x) :: t) st h mc ms Q := ev_iload_n n hd (by show ldL _ 2 = _; simp [ldL]) hn k
theorem ev_ist2 {a0 a1 a2 : Option Value} {x : Int32} {t : List (Option Value)} (n : Nat) (hd : decode (mC M) pc = .ok (.istore_n 2, 1)) (hp : ca2 a1 = false) (hi : 2 < mL M) (hn : pc + 1 = n) (k : Ev g M d n (a0 :: a1 :: some (.int x) :: t) st h mc ms Q) : Ev g M d pc (a0 :: a1 :: a2 :: t) (.int x :: st) h mc ms Q := ev_istore_n n hd (by show stL _ 2 _ = _; simp [stL, stG, Value.category, stG_far, hp]) hi hn k
theorem ev_lld2 {a0 a1 : Option Value} {x : Int64} {t : List (Option Value)} (n : Nat) (hd : decode (mC M) pc = .ok (.lload_n 2, 1)) (hn : pc + 1 = n) (k : Ev g M d n (a0 :: a1 :: some (.long x) :: t) (.long x :: st) h mc ms Q) : Ev g M d pc (a0 :: a1 :: some (.long x) :: t) st h mc ms Q := ev_lload_n n hd (by show ldL _ 2 = _; simp [ldL]) hn k
theorem ev_lst2 {a0 a1 a2 a3 : Option Value} {x : Int64} {t : List (Option Value)} (n : Nat) (hd : decode (mC M) pc = .ok (.lstore_n 2, 1)) (hp : ca2 a1 = false) (hi : 3 < mL M) (hn : pc + 1 = n) (k : Ev g M d n (a0 :: a1 :: some (.long x) :: none :: t) st h mc ms Q) : Ev g M d pc (a0 :: a1 :: a2 :: a3 :: t) (.long x :: st) h mc ms Q := ev_lstore_n n hd (by show stL _ 2 _ = _; simp [stL, stG, Value.category, stG_far, hp]) hi hn k
theorem ev_ald2 {a0 a1 : Option Value} {x : Nat} {t : List (Option Value)} (n : Nat) (hd : decode (mC M) pc = .ok (.aload_n 2, 1)) (hn : pc + 1 = n) (k : Ev g M d n (a0 :: a1 :: some (.ref x) :: t) (.ref x :: st) h mc ms Q) : Ev g M d pc (a0 :: a1 :: some (.ref x) :: t) st h mc ms Q := ev_aload_n n hd (by show ldL _ 2 = _; simp [ldL]) hn k
theorem ev_ast2 {a0 a1 a2 : Option Value} {x : Nat} {t : List (Option Value)} (n : Nat) (hd : decode (mC M) pc = .ok (.astore_n 2, 1)) (hp : ca2 a1 = false) (hi : 2 < mL M) (hn : pc + 1 = n) (k : Ev g M d n (a0 :: a1 :: some (.ref x) :: t) st h mc ms Q) : Ev g M d pc (a0 :: a1 :: a2 :: t) (.ref x :: st) h mc ms Q := ev_astore_n n hd (by show stL _ 2 _ = _; simp [stL, stG, Value.category, stG_far, hp]) hi hn k
theorem ev_fld2 {a0 a1 : Option Value} {x : UInt32} {t : List (Option Value)} (n : Nat) (hd : decode (mC M) pc = .ok (.fload_n 2, 1)) (hn : pc + 1 = n) (k : Ev g M d n (a0 :: a1 :: some (.float x) :: t) (.float x :: st) h mc ms Q) : Ev g M d pc (a0 :: a1 :: some (.float x) :: t) st h mc ms Q := ev_fload_n n hd (by show ldL _ 2 = _; simp [ldL]) hn k
theorem ev_fst2 {a0 a1 a2 : Option Value} {x : UInt32} {t : List (Option Value)} (n : Nat) (hd : decode (mC M) pc = .ok (.fstore_n 2, 1)) (hp : ca2 a1 = false) (hi : 2 < mL M) (hn : pc + 1 = n) (k : Ev g M d n (a0 :: a1 :: some (.float x) :: t) st h mc ms Q) : Ev g M d pc (a0 :: a1 :: a2 :: t) (.float x :: st) h mc ms Q := ev_fstore_n n hd (by show stL _ 2 _ = _; simp [stL, stG, Value.category, stG_far, hp]) hi hn k
theorem ev_dld2 {a0 a1 : Option Value} {x : UInt64} {t : List (Option Value)} (n : Nat) (hd : decode (mC M) pc = .ok (.dload_n 2, 1)) (hn : pc + 1 = n) (k : Ev g M d n (a0 :: a1 :: some (.double x) :: t) (.double x :: st) h mc ms Q) : Ev g M d pc (a0 :: a1 :: some (.double x) :: t) st h mc ms Q := ev_dload_n n hd (by show ldL _ 2 = _; simp [ldL]) hn k
theorem ev_dst2 {a0 a1 a2 a3 : Option Value} {x : UInt64} {t : List (Option Value)} (n : Nat) (hd : decode (mC M) pc = .ok (.dstore_n 2, 1)) (hp : ca2 a1 = false) (hi : 3 < mL M) (hn : pc + 1 = n) (k : Ev g M d n (a0 :: a1 :: some (.double x) :: none :: t) st h mc ms Q) : Ev g M d pc (a0 :: a1 :: a2 :: a3 :: t) (.double x :: st) h mc ms Q := ev_dstore_n n hd (by show stL _ 2 _ = _; simp [stL, stG, Value.category, stG_far, hp]) hi hn k
theorem ev_inc2 {a0 a1 : Option Value} {z : Int} {x : Int32} {t : List (Option Value)} (v : Int32) (n : Nat) (hd : decode (mC M) pc = .ok (.iinc 2 z, 3)) (hv : Int32.ofInt z = v) (hp : ca2 a1 = false) (hi : 2 < mL M) (hn : pc + 3 = n) (k : Ev g M d n (a0 :: a1 :: some (.int (x + v)) :: t) st h mc ms Q) : Ev g M d pc (a0 :: a1 :: some (.int x) :: t) st h mc ms Q := by
  subst hv
  exact ev_iinc (x := x) n hd (by simp [ldL]) (by show stL _ 2 _ = _; simp [stL, stG, Value.category, stG_far, hp]) hi hn k
theorem ev_ild3 {a0 a1 a2 : Option Value} {x : Int32} {t : List (Option Value)} (n : Nat) (hd : decode (mC M) pc = .ok (.iload_n 3, 1)) (hn : pc + 1 = n) (k : Ev g M d n (a0 :: a1 :: a2 :: some (.int x) :: t) (.int x :: st) h mc ms Q) : Ev g M d pc (a0 :: a1 :: a2 :: some (.int x) :: t) st h mc ms Q := ev_iload_n n hd (by show ldL _ 3 = _; simp [ldL]) hn k
theorem ev_ist3 {a0 a1 a2 a3 : Option Value} {x : Int32} {t : List (Option Value)} (n : Nat) (hd : decode (mC M) pc = .ok (.istore_n 3, 1)) (hp : ca2 a2 = false) (hi : 3 < mL M) (hn : pc + 1 = n) (k : Ev g M d n (a0 :: a1 :: a2 :: some (.int x) :: t) st h mc ms Q) : Ev g M d pc (a0 :: a1 :: a2 :: a3 :: t) (.int x :: st) h mc ms Q := ev_istore_n n hd (by show stL _ 3 _ = _; simp [stL, stG, Value.category, stG_far, hp]) hi hn k
theorem ev_lld3 {a0 a1 a2 : Option Value} {x : Int64} {t : List (Option Value)} (n : Nat) (hd : decode (mC M) pc = .ok (.lload_n 3, 1)) (hn : pc + 1 = n) (k : Ev g M d n (a0 :: a1 :: a2 :: some (.long x) :: t) (.long x :: st) h mc ms Q) : Ev g M d pc (a0 :: a1 :: a2 :: some (.long x) :: t) st h mc ms Q := ev_lload_n n hd (by show ldL _ 3 = _; simp [ldL]) hn k
theorem ev_lst3 {a0 a1 a2 a3 a4 : Option Value} {x : Int64} {t : List (Option Value)} (n : Nat) (hd : decode (mC M) pc = .ok (.lstore_n 3, 1)) (hp : ca2 a2 = false) (hi : 4 < mL M) (hn : pc + 1 = n) (k : Ev g M d n (a0 :: a1 :: a2 :: some (.long x) :: none :: t) st h mc ms Q) : Ev g M d pc (a0 :: a1 :: a2 :: a3 :: a4 :: t) (.long x :: st) h mc ms Q := ev_lstore_n n hd (by show stL _ 3 _ = _; simp [stL, stG, Value.category, stG_far, hp]) hi hn k
theorem ev_ald3 {a0 a1 a2 : Option Value} {x : Nat} {t : List (Option Value)} (n : Nat) (hd : decode (mC M) pc = .ok (.aload_n 3, 1)) (hn : pc + 1 = n) (k : Ev g M d n (a0 :: a1 :: a2 :: some (.ref x) :: t) (.ref x :: st) h mc ms Q) : Ev g M d pc (a0 :: a1 :: a2 :: some (.ref x) :: t) st h mc ms Q := ev_aload_n n hd (by show ldL _ 3 = _; simp [ldL]) hn k
theorem ev_ast3 {a0 a1 a2 a3 : Option Value} {x : Nat} {t : List (Option Value)} (n : Nat) (hd : decode (mC M) pc = .ok (.astore_n 3, 1)) (hp : ca2 a2 = false) (hi : 3 < mL M) (hn : pc + 1 = n) (k : Ev g M d n (a0 :: a1 :: a2 :: some (.ref x) :: t) st h mc ms Q) : Ev g M d pc (a0 :: a1 :: a2 :: a3 :: t) (.ref x :: st) h mc ms Q := ev_astore_n n hd (by show stL _ 3 _ = _; simp [stL, stG, Value.category, stG_far, hp]) hi hn k
theorem ev_fld3 {a0 a1 a2 : Option Value} {x : UInt32} {t : List (Option Value)} (n : Nat) (hd : decode (mC M) pc = .ok (.fload_n 3, 1)) (hn : pc + 1 = n) (k : Ev g M d n (a0 :: a1 :: a2 :: some (.float x) :: t) (.float x :: st) h mc ms Q) : Ev g M d pc (a0 :: a1 :: a2 :: some (.float x) :: t) st h mc ms Q := ev_fload_n n hd (by show ldL _ 3 = _; simp [ldL]) hn k
theorem ev_fst3 {a0 a1 a2 a3 : Option Value} {x : UInt32} {t : List (Option Value)} (n : Nat) (hd : decode (mC M) pc = .ok (.fstore_n 3, 1)) (hp : ca2 a2 = false) (hi : 3 < mL M) (hn : pc + 1 = n) (k : Ev g M d n (a0 :: a1 :: a2 :: some (.float x) :: t) st h mc ms Q) : Ev g M d pc (a0 :: a1 :: a2 :: a3 :: t) (.float x :: st) h mc ms Q := ev_fstore_n n hd (by show stL _ 3 _ = _; simp [stL, stG, Value.category, stG_far, hp]) hi hn k
theorem ev_dld3 {a0 a1 a2 : Option Value} {x : UInt64} {t : List (Option Value)} (n : Nat) (hd : decode (mC M) pc = .ok (.dload_n 3, 1)) (hn : pc + 1 = n) (k : Ev g M d n (a0 :: a1 :: a2 :: some (.double x) :: t) (.double x :: st) h mc ms Q) : Ev g M d pc (a0 :: a1 :: a2 :: some (.double x) :: t) st h mc ms Q := ev_dload_n n hd (by show ldL _ 3 = _; simp [ldL]) hn k
theorem ev_dst3 {a0 a1 a2 a3 a4 : Option Value} {x : UInt64} {t : List (Option Value)} (n : Nat) (hd : decode (mC M) pc = .ok (.dstore_n 3, 1)) (hp : ca2 a2 = false) (hi : 4 < mL M) (hn : pc + 1 = n) (k : Ev g M d n (a0 :: a1 :: a2 :: some (.double x) :: none :: t) st h mc ms Q) : Ev g M d pc (a0 :: a1 :: a2 :: a3 :: a4 :: t) (.double x :: st) h mc ms Q := ev_dstore_n n hd (by show stL _ 3 _ = _; simp [stL, stG, Value.category, stG_far, hp]) hi hn k
theorem ev_inc3 {a0 a1 a2 : Option Value} {z : Int} {x : Int32} {t : List (Option Value)} (v : Int32) (n : Nat) (hd : decode (mC M) pc = .ok (.iinc 3 z, 3)) (hv : Int32.ofInt z = v) (hp : ca2 a2 = false) (hi : 3 < mL M) (hn : pc + 3 = n) (k : Ev g M d n (a0 :: a1 :: a2 :: some (.int (x + v)) :: t) st h mc ms Q) : Ev g M d pc (a0 :: a1 :: a2 :: some (.int x) :: t) st h mc ms Q := by
  subst hv
  exact ev_iinc (x := x) n hd (by simp [ldL]) (by show stL _ 3 _ = _; simp [stL, stG, Value.category, stG_far, hp]) hi hn k
theorem ev_ild4 {a0 a1 a2 a3 : Option Value} {x : Int32} {t : List (Option Value)} (n : Nat) (hd : decode (mC M) pc = .ok (.iload 4, 2)) (hn : pc + 2 = n) (k : Ev g M d n (a0 :: a1 :: a2 :: a3 :: some (.int x) :: t) (.int x :: st) h mc ms Q) : Ev g M d pc (a0 :: a1 :: a2 :: a3 :: some (.int x) :: t) st h mc ms Q := ev_iload n hd (by show ldL _ 4 = _; simp [ldL]) hn k
theorem ev_ist4 {a0 a1 a2 a3 a4 : Option Value} {x : Int32} {t : List (Option Value)} (n : Nat) (hd : decode (mC M) pc = .ok (.istore 4, 2)) (hp : ca2 a3 = false) (hi : 4 < mL M) (hn : pc + 2 = n) (k : Ev g M d n (a0 :: a1 :: a2 :: a3 :: some (.int x) :: t) st h mc ms Q) : Ev g M d pc (a0 :: a1 :: a2 :: a3 :: a4 :: t) (.int x :: st) h mc ms Q := ev_istore n hd (by show stL _ 4 _ = _; simp [stL, stG, Value.category, stG_far, hp]) hi hn k
theorem ev_lld4 {a0 a1 a2 a3 : Option Value} {x : Int64} {t : List (Option Value)} (n : Nat) (hd : decode (mC M) pc = .ok (.lload 4, 2)) (hn : pc + 2 = n) (k : Ev g M d n (a0 :: a1 :: a2 :: a3 :: some (.long x) :: t) (.long x :: st) h mc ms Q) : Ev g M d pc (a0 :: a1 :: a2 :: a3 :: some (.long x) :: t) st h mc ms Q := ev_lload n hd (by show ldL _ 4 = _; simp [ldL]) hn k
theorem ev_lst4 {a0 a1 a2 a3 a4 a5 : Option Value} {x : Int64} {t : List (Option Value)} (n : Nat) (hd : decode (mC M) pc = .ok (.lstore 4, 2)) (hp : ca2 a3 = false) (hi : 5 < mL M) (hn : pc + 2 = n) (k : Ev g M d n (a0 :: a1 :: a2 :: a3 :: some (.long x) :: none :: t) st h mc ms Q) : Ev g M d pc (a0 :: a1 :: a2 :: a3 :: a4 :: a5 :: t) (.long x :: st) h mc ms Q := ev_lstore n hd (by show stL _ 4 _ = _; simp [stL, stG, Value.category, stG_far, hp]) hi hn k
theorem ev_ald4 {a0 a1 a2 a3 : Option Value} {x : Nat} {t : List (Option Value)} (n : Nat) (hd : decode (mC M) pc = .ok (.aload 4, 2)) (hn : pc + 2 = n) (k : Ev g M d n (a0 :: a1 :: a2 :: a3 :: some (.ref x) :: t) (.ref x :: st) h mc ms Q) : Ev g M d pc (a0 :: a1 :: a2 :: a3 :: some (.ref x) :: t) st h mc ms Q := ev_aload n hd (by show ldL _ 4 = _; simp [ldL]) hn k
theorem ev_ast4 {a0 a1 a2 a3 a4 : Option Value} {x : Nat} {t : List (Option Value)} (n : Nat) (hd : decode (mC M) pc = .ok (.astore 4, 2)) (hp : ca2 a3 = false) (hi : 4 < mL M) (hn : pc + 2 = n) (k : Ev g M d n (a0 :: a1 :: a2 :: a3 :: some (.ref x) :: t) st h mc ms Q) : Ev g M d pc (a0 :: a1 :: a2 :: a3 :: a4 :: t) (.ref x :: st) h mc ms Q := ev_astore n hd (by show stL _ 4 _ = _; simp [stL, stG, Value.category, stG_far, hp]) hi hn k
theorem ev_fld4 {a0 a1 a2 a3 : Option Value} {x : UInt32} {t : List (Option Value)} (n : Nat) (hd : decode (mC M) pc = .ok (.fload 4, 2)) (hn : pc + 2 = n) (k : Ev g M d n (a0 :: a1 :: a2 :: a3 :: some (.float x) :: t) (.float x :: st) h mc ms Q) : Ev g M d pc (a0 :: a1 :: a2 :: a3 :: some (.float x) :: t) st h mc ms Q := ev_fload n hd (by show ldL _ 4 = _; simp [ldL]) hn k
theorem ev_fst4 {a0 a1 a2 a3 a4 : Option Value} {x : UInt32} {t : List (Option Value)} (n : Nat) (hd : decode (mC M) pc = .ok (.fstore 4, 2)) (hp : ca2 a3 = false) (hi : 4 < mL M) (hn : pc + 2 = n) (k : Ev g M d n (a0 :: a1 :: a2 :: a3 :: some (.float x) :: t) st h mc ms Q) : Ev g M d pc (a0 :: a1 :: a2 :: a3 :: a4 :: t) (.float x :: st) h mc ms Q := ev_fstore n hd (by show stL _ 4 _ = _; simp [stL, stG, Value.category, stG_far, hp]) hi hn k
theorem ev_dld4 {a0 a1 a2 a3 : Option Value} {x : UInt64} {t : List (Option Value)} (n : Nat) (hd : decode (mC M) pc = .ok (.dload 4, 2)) (hn : pc + 2 = n) (k : Ev g M d n (a0 :: a1 :: a2 :: a3 :: some (.double x) :: t) (.double x :: st) h mc ms Q) : Ev g M d pc (a0 :: a1 :: a2 :: a3 :: some (.double x) :: t) st h mc ms Q := ev_dload n hd (by show ldL _ 4 = _; simp [ldL]) hn k
theorem ev_dst4 {a0 a1 a2 a3 a4 a5 : Option Value} {x : UInt64} {t : List (Option Value)} (n : Nat) (hd : decode (mC M) pc = .ok (.dstore 4, 2)) (hp : ca2 a3 = false) (hi : 5 < mL M) (hn : pc + 2 = n) (k : Ev g M d n (a0 :: a1 :: a2 :: a3 :: some (.double x) :: none :: t) st h mc ms Q) : Ev g M d pc (a0 :: a1 :: a2 :: a3 :: a4 :: a5 :: t) (.double x :: st) h mc ms Q := ev_dstore n hd (by show stL _ 4 _ = _; simp [stL, stG, Value.category, stG_far, hp]) hi hn k
theorem ev_inc4 {a0 a1 a2 a3 : Option Value} {z : Int} {x : Int32} {t : List (Option Value)} (v : Int32) (n : Nat) (hd : decode (mC M) pc = .ok (.iinc 4 z, 3)) (hv : Int32.ofInt z = v) (hp : ca2 a3 = false) (hi : 4 < mL M) (hn : pc + 3 = n) (k : Ev g M d n (a0 :: a1 :: a2 :: a3 :: some (.int (x + v)) :: t) st h mc ms Q) : Ev g M d pc (a0 :: a1 :: a2 :: a3 :: some (.int x) :: t) st h mc ms Q := by
  subst hv
  exact ev_iinc (x := x) n hd (by simp [ldL]) (by show stL _ 4 _ = _; simp [stL, stG, Value.category, stG_far, hp]) hi hn k
theorem ev_ild5 {a0 a1 a2 a3 a4 : Option Value} {x : Int32} {t : List (Option Value)} (n : Nat) (hd : decode (mC M) pc = .ok (.iload 5, 2)) (hn : pc + 2 = n) (k : Ev g M d n (a0 :: a1 :: a2 :: a3 :: a4 :: some (.int x) :: t) (.int x :: st) h mc ms Q) : Ev g M d pc (a0 :: a1 :: a2 :: a3 :: a4 :: some (.int x) :: t) st h mc ms Q := ev_iload n hd (by show ldL _ 5 = _; simp [ldL]) hn k
theorem ev_ist5 {a0 a1 a2 a3 a4 a5 : Option Value} {x : Int32} {t : List (Option Value)} (n : Nat) (hd : decode (mC M) pc = .ok (.istore 5, 2)) (hp : ca2 a4 = false) (hi : 5 < mL M) (hn : pc + 2 = n) (k : Ev g M d n (a0 :: a1 :: a2 :: a3 :: a4 :: some (.int x) :: t) st h mc ms Q) : Ev g M d pc (a0 :: a1 :: a2 :: a3 :: a4 :: a5 :: t) (.int x :: st) h mc ms Q := ev_istore n hd (by show stL _ 5 _ = _; simp [stL, stG, Value.category, stG_far, hp]) hi hn k
theorem ev_lld5 {a0 a1 a2 a3 a4 : Option Value} {x : Int64} {t : List (Option Value)} (n : Nat) (hd : decode (mC M) pc = .ok (.lload 5, 2)) (hn : pc + 2 = n) (k : Ev g M d n (a0 :: a1 :: a2 :: a3 :: a4 :: some (.long x) :: t) (.long x :: st) h mc ms Q) : Ev g M d pc (a0 :: a1 :: a2 :: a3 :: a4 :: some (.long x) :: t) st h mc ms Q := ev_lload n hd (by show ldL _ 5 = _; simp [ldL]) hn k
theorem ev_lst5 {a0 a1 a2 a3 a4 a5 a6 : Option Value} {x : Int64} {t : List (Option Value)} (n : Nat) (hd : decode (mC M) pc = .ok (.lstore 5, 2)) (hp : ca2 a4 = false) (hi : 6 < mL M) (hn : pc + 2 = n) (k : Ev g M d n (a0 :: a1 :: a2 :: a3 :: a4 :: some (.long x) :: none :: t) st h mc ms Q) : Ev g M d pc (a0 :: a1 :: a2 :: a3 :: a4 :: a5 :: a6 :: t) (.long x :: st) h mc ms Q := ev_lstore n hd (by show stL _ 5 _ = _; simp [stL, stG, Value.category, stG_far, hp]) hi hn k
theorem ev_ald5 {a0 a1 a2 a3 a4 : Option Value} {x : Nat} {t : List (Option Value)} (n : Nat) (hd : decode (mC M) pc = .ok (.aload 5, 2)) (hn : pc + 2 = n) (k : Ev g M d n (a0 :: a1 :: a2 :: a3 :: a4 :: some (.ref x) :: t) (.ref x :: st) h mc ms Q) : Ev g M d pc (a0 :: a1 :: a2 :: a3 :: a4 :: some (.ref x) :: t) st h mc ms Q := ev_aload n hd (by show ldL _ 5 = _; simp [ldL]) hn k
theorem ev_ast5 {a0 a1 a2 a3 a4 a5 : Option Value} {x : Nat} {t : List (Option Value)} (n : Nat) (hd : decode (mC M) pc = .ok (.astore 5, 2)) (hp : ca2 a4 = false) (hi : 5 < mL M) (hn : pc + 2 = n) (k : Ev g M d n (a0 :: a1 :: a2 :: a3 :: a4 :: some (.ref x) :: t) st h mc ms Q) : Ev g M d pc (a0 :: a1 :: a2 :: a3 :: a4 :: a5 :: t) (.ref x :: st) h mc ms Q := ev_astore n hd (by show stL _ 5 _ = _; simp [stL, stG, Value.category, stG_far, hp]) hi hn k
theorem ev_fld5 {a0 a1 a2 a3 a4 : Option Value} {x : UInt32} {t : List (Option Value)} (n : Nat) (hd : decode (mC M) pc = .ok (.fload 5, 2)) (hn : pc + 2 = n) (k : Ev g M d n (a0 :: a1 :: a2 :: a3 :: a4 :: some (.float x) :: t) (.float x :: st) h mc ms Q) : Ev g M d pc (a0 :: a1 :: a2 :: a3 :: a4 :: some (.float x) :: t) st h mc ms Q := ev_fload n hd (by show ldL _ 5 = _; simp [ldL]) hn k
theorem ev_fst5 {a0 a1 a2 a3 a4 a5 : Option Value} {x : UInt32} {t : List (Option Value)} (n : Nat) (hd : decode (mC M) pc = .ok (.fstore 5, 2)) (hp : ca2 a4 = false) (hi : 5 < mL M) (hn : pc + 2 = n) (k : Ev g M d n (a0 :: a1 :: a2 :: a3 :: a4 :: some (.float x) :: t) st h mc ms Q) : Ev g M d pc (a0 :: a1 :: a2 :: a3 :: a4 :: a5 :: t) (.float x :: st) h mc ms Q := ev_fstore n hd (by show stL _ 5 _ = _; simp [stL, stG, Value.category, stG_far, hp]) hi hn k
theorem ev_dld5 {a0 a1 a2 a3 a4 : Option Value} {x : UInt64} {t : List (Option Value)} (n : Nat) (hd : decode (mC M) pc = .ok (.dload 5, 2)) (hn : pc + 2 = n) (k : Ev g M d n (a0 :: a1 :: a2 :: a3 :: a4 :: some (.double x) :: t) (.double x :: st) h mc ms Q) : Ev g M d pc (a0 :: a1 :: a2 :: a3 :: a4 :: some (.double x) :: t) st h mc ms Q := ev_dload n hd (by show ldL _ 5 = _; simp [ldL]) hn k
theorem ev_dst5 {a0 a1 a2 a3 a4 a5 a6 : Option Value} {x : UInt64} {t : List (Option Value)} (n : Nat) (hd : decode (mC M) pc = .ok (.dstore 5, 2)) (hp : ca2 a4 = false) (hi : 6 < mL M) (hn : pc + 2 = n) (k : Ev g M d n (a0 :: a1 :: a2 :: a3 :: a4 :: some (.double x) :: none :: t) st h mc ms Q) : Ev g M d pc (a0 :: a1 :: a2 :: a3 :: a4 :: a5 :: a6 :: t) (.double x :: st) h mc ms Q := ev_dstore n hd (by show stL _ 5 _ = _; simp [stL, stG, Value.category, stG_far, hp]) hi hn k
theorem ev_inc5 {a0 a1 a2 a3 a4 : Option Value} {z : Int} {x : Int32} {t : List (Option Value)} (v : Int32) (n : Nat) (hd : decode (mC M) pc = .ok (.iinc 5 z, 3)) (hv : Int32.ofInt z = v) (hp : ca2 a4 = false) (hi : 5 < mL M) (hn : pc + 3 = n) (k : Ev g M d n (a0 :: a1 :: a2 :: a3 :: a4 :: some (.int (x + v)) :: t) st h mc ms Q) : Ev g M d pc (a0 :: a1 :: a2 :: a3 :: a4 :: some (.int x) :: t) st h mc ms Q := by
  subst hv
  exact ev_iinc (x := x) n hd (by simp [ldL]) (by show stL _ 5 _ = _; simp [stL, stG, Value.category, stG_far, hp]) hi hn k
theorem ev_ild6 {a0 a1 a2 a3 a4 a5 : Option Value} {x : Int32} {t : List (Option Value)} (n : Nat) (hd : decode (mC M) pc = .ok (.iload 6, 2)) (hn : pc + 2 = n) (k : Ev g M d n (a0 :: a1 :: a2 :: a3 :: a4 :: a5 :: some (.int x) :: t) (.int x :: st) h mc ms Q) : Ev g M d pc (a0 :: a1 :: a2 :: a3 :: a4 :: a5 :: some (.int x) :: t) st h mc ms Q := ev_iload n hd (by show ldL _ 6 = _; simp [ldL]) hn k
theorem ev_ist6 {a0 a1 a2 a3 a4 a5 a6 : Option Value} {x : Int32} {t : List (Option Value)} (n : Nat) (hd : decode (mC M) pc = .ok (.istore 6, 2)) (hp : ca2 a5 = false) (hi : 6 < mL M) (hn : pc + 2 = n) (k : Ev g M d n (a0 :: a1 :: a2 :: a3 :: a4 :: a5 :: some (.int x) :: t) st h mc ms Q) : Ev g M d pc (a0 :: a1 :: a2 :: a3 :: a4 :: a5 :: a6 :: t) (.int x :: st) h mc ms Q := ev_istore n hd (by show stL _ 6 _ = _; simp [stL, stG, Value.category, stG_far, hp]) hi hn k
theorem ev_lld6 {a0 a1 a2 a3 a4 a5 : Option Value} {x : Int64} {t : List (Option Value)} (n : Nat) (hd : decode (mC M) pc = .ok (.lload 6, 2)) (hn : pc + 2 = n) (k : Ev g M d n (a0 :: a1 :: a2 :: a3 :: a4 :: a5 :: some (.long x) :: t) (.long x :: st) h mc ms Q) : Ev g M d pc (a0 :: a1 :: a2 :: a3 :: a4 :: a5 :: some (.long x) :: t) st h mc ms Q := ev_lload n hd (by show ldL _ 6 = _; simp [ldL]) hn k
theorem ev_lst6 {a0 a1 a2 a3 a4 a5 a6 a7 : Option Value} {x : Int64} {t : List (Option Value)} (n : Nat) (hd : decode (mC M) pc = .ok (.lstore 6, 2)) (hp : ca2 a5 = false) (hi : 7 < mL M) (hn : pc + 2 = n) (k : Ev g M d n (a0 :: a1 :: a2 :: a3 :: a4 :: a5 :: some (.long x) :: none :: t) st h mc ms Q) : Ev g M d pc (a0 :: a1 :: a2 :: a3 :: a4 :: a5 :: a6 :: a7 :: t) (.long x :: st) h mc ms Q := ev_lstore n hd (by show stL _ 6 _ = _; simp [stL, stG, Value.category, stG_far, hp]) hi hn k
theorem ev_ald6 {a0 a1 a2 a3 a4 a5 : Option Value} {x : Nat} {t : List (Option Value)} (n : Nat) (hd : decode (mC M) pc = .ok (.aload 6, 2)) (hn : pc + 2 = n) (k : Ev g M d n (a0 :: a1 :: a2 :: a3 :: a4 :: a5 :: some (.ref x) :: t) (.ref x :: st) h mc ms Q) : Ev g M d pc (a0 :: a1 :: a2 :: a3 :: a4 :: a5 :: some (.ref x) :: t) st h mc ms Q := ev_aload n hd (by show ldL _ 6 = _; simp [ldL]) hn k
theorem ev_ast6 {a0 a1 a2 a3 a4 a5 a6 : Option Value} {x : Nat} {t : List (Option Value)} (n : Nat) (hd : decode (mC M) pc = .ok (.astore 6, 2)) (hp : ca2 a5 = false) (hi : 6 < mL M) (hn : pc + 2 = n) (k : Ev g M d n (a0 :: a1 :: a2 :: a3 :: a4 :: a5 :: some (.ref x) :: t) st h mc ms Q) : Ev g M d pc (a0 :: a1 :: a2 :: a3 :: a4 :: a5 :: a6 :: t) (.ref x :: st) h mc ms Q := ev_astore n hd (by show stL _ 6 _ = _; simp [stL, stG, Value.category, stG_far, hp]) hi hn k
theorem ev_fld6 {a0 a1 a2 a3 a4 a5 : Option Value} {x : UInt32} {t : List (Option Value)} (n : Nat) (hd : decode (mC M) pc = .ok (.fload 6, 2)) (hn : pc + 2 = n) (k : Ev g M d n (a0 :: a1 :: a2 :: a3 :: a4 :: a5 :: some (.float x) :: t) (.float x :: st) h mc ms Q) : Ev g M d pc (a0 :: a1 :: a2 :: a3 :: a4 :: a5 :: some (.float x) :: t) st h mc ms Q := ev_fload n hd (by show ldL _ 6 = _; simp [ldL]) hn k
theorem ev_fst6 {a0 a1 a2 a3 a4 a5 a6 : Option Value} {x : UInt32} {t : List (Option Value)} (n : Nat) (hd : decode (mC M) pc = .ok (.fstore 6, 2)) (hp : ca2 a5 = false) (hi : 6 < mL M) (hn : pc + 2 = n) (k : Ev g M d n (a0 :: a1 :: a2 :: a3 :: a4 :: a5 :: some (.float x) :: t) st h mc ms Q) : Ev g M d pc (a0 :: a1 :: a2 :: a3 :: a4 :: a5 :: a6 :: t) (.float x :: st) h mc ms Q := ev_fstore n hd (by show stL _ 6 _ = _; simp [stL, stG, Value.category, stG_far, hp]) hi hn k
theorem ev_dld6 {a0 a1 a2 a3 a4 a5 : Option Value} {x : UInt64} {t : List (Option Value)} (n : Nat) (hd : decode (mC M) pc = .ok (.dload 6, 2)) (hn : pc + 2 = n) (k : Ev g M d n (a0 :: a1 :: a2 :: a3 :: a4 :: a5 :: some (.double x) :: t) (.double x :: st) h mc ms Q) : Ev g M d pc (a0 :: a1 :: a2 :: a3 :: a4 :: a5 :: some (.double x) :: t) st h mc ms Q := ev_dload n hd (by show ldL _ 6 = _; simp [ldL]) hn k
theorem ev_dst6 {a0 a1 a2 a3 a4 a5 a6 a7 : Option Value} {x : UInt64} {t : List (Option Value)} (n : Nat) (hd : decode (mC M) pc = .ok (.dstore 6, 2)) (hp : ca2 a5 = false) (hi : 7 < mL M) (hn : pc + 2 = n) (k : Ev g M d n (a0 :: a1 :: a2 :: a3 :: a4 :: a5 :: some (.double x) :: none :: t) st h mc ms Q) : Ev g M d pc (a0 :: a1 :: a2 :: a3 :: a4 :: a5 :: a6 :: a7 :: t) (.double x :: st) h mc ms Q := ev_dstore n hd (by show stL _ 6 _ = _; simp [stL, stG, Value.category, stG_far, hp]) hi hn k
theorem ev_inc6 {a0 a1 a2 a3 a4 a5 : Option Value} {z : Int} {x : Int32} {t : List (Option Value)} (v : Int32) (n : Nat) (hd : decode (mC M) pc = .ok (.iinc 6 z, 3)) (hv : Int32.ofInt z = v) (hp : ca2 a5 = false) (hi : 6 < mL M) (hn : pc + 3 = n) (k : Ev g M d n (a0 :: a1 :: a2 :: a3 :: a4 :: a5 :: some (.int (x + v)) :: t) st h mc ms Q) : Ev g M d pc (a0 :: a1 :: a2 :: a3 :: a4 :: a5 :: some (.int x) :: t) st h mc ms Q := by
  subst hv
  exact ev_iinc (x := x) n hd (by simp [ldL]) (by show stL _ 6 _ = _; simp [stL, stG, Value.category, stG_far, hp]) hi hn k
theorem ev_ild7 {a0 a1 a2 a3 a4 a5 a6 : Option Value} {x : Int32} {t : List (Option Value)} (n : Nat) (hd : decode (mC M) pc = .ok (.iload 7, 2)) (hn : pc + 2 = n) (k : Ev g M d n (a0 :: a1 :: a2 :: a3 :: a4 :: a5 :: a6 :: some (.int x) :: t) (.int x :: st) h mc ms Q) : Ev g M d pc (a0 :: a1 :: a2 :: a3 :: a4 :: a5 :: a6 :: some (.int x) :: t) st h mc ms Q := ev_iload n hd (by show ldL _ 7 = _; simp [ldL]) hn k
theorem ev_ist7 {a0 a1 a2 a3 a4 a5 a6 a7 : Option Value} {x : Int32} {t : List (Option Value)} (n : Nat) (hd : decode (mC M) pc = .ok (.istore 7, 2)) (hp : ca2 a6 = false) (hi : 7 < mL M) (hn : pc + 2 = n) (k : Ev g M d n (a0 :: a1 :: a2 :: a3 :: a4 :: a5 :: a6 :: some (.int x) :: t) st h mc ms Q) : Ev g M d pc (a0 :: a1 :: a2 :: a3 :: a4 :: a5 :: a6 :: a7 :: t) (.int x :: st) h mc ms Q := ev_istore n hd (by show stL _ 7 _ = _; simp [stL, stG, Value.category, stG_far, hp]) hi hn k
theorem ev_lld7 {a0 a1 a2 a3 a4 a5 a6 : Option Value} {x : Int64} {t : List (Option Value)} (n : Nat) (hd : decode (mC M) pc = .ok (.lload 7, 2)) (hn : pc + 2 = n) (k : Ev g M d n (a0 :: a1 :: a2 :: a3 :: a4 :: a5 :: a6 :: some (.long x) :: t) (.long x :: st) h mc ms Q) : Ev g M d pc (a0 :: a1 :: a2 :: a3 :: a4 :: a5 :: a6 :: some (.long x) :: t) st h mc ms Q := ev_lload n hd (by show ldL _ 7 = _; simp [ldL]) hn k
theorem ev_lst7 {a0 a1 a2 a3 a4 a5 a6 a7 a8 : Option Value} {x : Int64} {t : List (Option Value)} (n : Nat) (hd : decode (mC M) pc = .ok (.lstore 7, 2)) (hp : ca2 a6 = false) (hi : 8 < mL M) (hn : pc + 2 = n) (k : Ev g M d n (a0 :: a1 :: a2 :: a3 :: a4 :: a5 :: a6 :: some (.long x) :: none :: t) st h mc ms Q) : Ev g M d pc (a0 :: a1 :: a2 :: a3 :: a4 :: a5 :: a6 :: a7 :: a8 :: t) (.long x :: st) h mc ms Q := ev_lstore n hd (by show stL _ 7 _ = _; simp [stL, stG, Value.category, stG_far, hp]) hi hn k
theorem ev_ald7 {a0 a1 a2 a3 a4 a5 a6 : Option Value} {x : Nat} {t : List (Option Value)} (n : Nat) (hd : decode (mC M) pc = .ok (.aload 7, 2)) (hn : pc + 2 = n) (k : Ev g M d n (a0 :: a1 :: a2 :: a3 :: a4 :: a5 :: a6 :: some (.ref x) :: t) (.ref x :: st) h mc ms Q) : Ev g M d pc (a0 :: a1 :: a2 :: a3 :: a4 :: a5 :: a6 :: some (.ref x) :: t) st h mc ms Q := ev_aload n hd (by show ldL _ 7 = _; simp [ldL]) hn k
theorem ev_ast7 {a0 a1 a2 a3 a4 a5 a6 a7 : Option Value} {x : Nat} {t : List (Option Value)} (n : Nat) (hd : decode (mC M) pc = .ok (.astore 7, 2)) (hp : ca2 a6 = false) (hi : 7 < mL M) (hn : pc + 2 = n) (k : Ev g M d n (a0 :: a1 :: a2 :: a3 :: a4 :: a5 :: a6 :: some (.ref x) :: t) st h mc ms Q) : Ev g M d pc (a0 :: a1 :: a2 :: a3 :: a4 :: a5 :: a6 :: a7 :: t) (.ref x :: st) h mc ms Q := ev_astore n hd (by show stL _ 7 _ = _; simp [stL, stG, Value.category, stG_far, hp]) hi hn k
theorem ev_inc7 {a0 a1 a2 a3 a4 a5 a6 : Option Value} {z : Int} {x : Int32} {t : List (Option Value)} (v : Int32) (n : Nat) (hd : decode (mC M) pc = .ok (.iinc 7 z, 3)) (hv : Int32.ofInt z = v) (hp : ca2 a6 = false) (hi : 7 < mL M) (hn : pc + 3 = n) (k : Ev g M d n (a0 :: a1 :: a2 :: a3 :: a4 :: a5 :: a6 :: some (.int (x + v)) :: t) st h mc ms Q) : Ev g M d pc (a0 :: a1 :: a2 :: a3 :: a4 :: a5 :: a6 :: some (.int x) :: t) st h mc ms Q := by
  subst hv
  exact ev_iinc (x := x) n hd (by simp [ldL]) (by show stL _ 7 _ = _; simp [stL, stG, Value.category, stG_far, hp]) hi hn k
theorem ev_ild8 {a0 a1 a2 a3 a4 a5 a6 a7 : Option Value} {x : Int32} {t : List (Option Value)} (n : Nat) (hd : decode (mC M) pc = .ok (.iload 8, 2)) (hn : pc + 2 = n) (k : Ev g M d n (a0 :: a1 :: a2 :: a3 :: a4 :: a5 :: a6 :: a7 :: some (.int x) :: t) (.int x :: st) h mc ms Q) : Ev g M d pc (a0 :: a1 :: a2 :: a3 :: a4 :: a5 :: a6 :: a7 :: some (.int x) :: t) st h mc ms Q := ev_iload n hd (by show ldL _ 8 = _; simp [ldL]) hn k
theorem ev_ist8 {a0 a1 a2 a3 a4 a5 a6 a7 a8 : Option Value} {x : Int32} {t : List (Option Value)} (n : Nat) (hd : decode (mC M) pc = .ok (.istore 8, 2)) (hp : ca2 a7 = false) (hi : 8 < mL M) (hn : pc + 2 = n) (k : Ev g M d n (a0 :: a1 :: a2 :: a3 :: a4 :: a5 :: a6 :: a7 :: some (.int x) :: t) st h mc ms Q) : Ev g M d pc (a0 :: a1 :: a2 :: a3 :: a4 :: a5 :: a6 :: a7 :: a8 :: t) (.int x :: st) h mc ms Q := ev_istore n hd (by show stL _ 8 _ = _; simp [stL, stG, Value.category, stG_far, hp]) hi hn k
theorem ev_lld8 {a0 a1 a2 a3 a4 a5 a6 a7 : Option Value} {x : Int64} {t : List (Option Value)} (n : Nat) (hd : decode (mC M) pc = .ok (.lload 8, 2)) (hn : pc + 2 = n) (k : Ev g M d n (a0 :: a1 :: a2 :: a3 :: a4 :: a5 :: a6 :: a7 :: some (.long x) :: t) (.long x :: st) h mc ms Q) : Ev g M d pc (a0 :: a1 :: a2 :: a3 :: a4 :: a5 :: a6 :: a7 :: some (.long x) :: t) st h mc ms Q := ev_lload n hd (by show ldL _ 8 = _; simp [ldL]) hn k
theorem ev_lst8 {a0 a1 a2 a3 a4 a5 a6 a7 a8 a9 : Option Value} {x : Int64} {t : List (Option Value)} (n : Nat) (hd : decode (mC M) pc = .ok (.lstore 8, 2)) (hp : ca2 a7 = false) (hi : 9 < mL M) (hn : pc + 2 = n) (k : Ev g M d n (a0 :: a1 :: a2 :: a3 :: a4 :: a5 :: a6 :: a7 :: some (.long x) :: none :: t) st h mc ms Q) : Ev g M d pc (a0 :: a1 :: a2 :: a3 :: a4 :: a5 :: a6 :: a7 :: a8 :: a9 :: t) (.long x :: st) h mc ms Q := ev_lstore n hd (by show stL _ 8 _ = _; simp [stL, stG, Value.category, stG_far, hp]) hi hn k
theorem ev_ald8 {a0 a1 a2 a3 a4 a5 a6 a7 : Option Value} {x : Nat} {t : List (Option Value)} (n : Nat) (hd : decode (mC M) pc = .ok (.aload 8, 2)) (hn : pc + 2 = n) (k : Ev g M d n (a0 :: a1 :: a2 :: a3 :: a4 :: a5 :: a6 :: a7 :: some (.ref x) :: t) (.ref x :: st) h mc ms Q) : Ev g M d pc (a0 :: a1 :: a2 :: a3 :: a4 :: a5 :: a6 :: a7 :: some (.ref x) :: t) st h mc ms Q := ev_aload n hd (by show ldL _ 8 = _; simp [ldL]) hn k
theorem ev_ast8 {a0 a1 a2 a3 a4 a5 a6 a7 a8 : Option Value} {x : Nat} {t : List (Option Value)} (n : Nat) (hd : decode (mC M) pc = .ok (.astore 8, 2)) (hp : ca2 a7 = false) (hi : 8 < mL M) (hn : pc + 2 = n) (k : Ev g M d n (a0 :: a1 :: a2 :: a3 :: a4 :: a5 :: a6 :: a7 :: some (.ref x) :: t) st h mc ms Q) : Ev g M d pc (a0 :: a1 :: a2 :: a3 :: a4 :: a5 :: a6 :: a7 :: a8 :: t) (.ref x :: st) h mc ms Q := ev_astore n hd (by show stL _ 8 _ = _; simp [stL, stG, Value.category, stG_far, hp]) hi hn k
theorem ev_inc8 {a0 a1 a2 a3 a4 a5 a6 a7 : Option Value} {z : Int} {x : Int32} {t : List (Option Value)} (v : Int32) (n : Nat) (hd : decode (mC M) pc = .ok (.iinc 8 z, 3)) (hv : Int32.ofInt z = v) (hp : ca2 a7 = false) (hi : 8 < mL M) (hn : pc + 3 = n) (k : Ev g M d n (a0 :: a1 :: a2 :: a3 :: a4 :: a5 :: a6 :: a7 :: some (.int (x + v)) :: t) st h mc ms Q) : Ev g M d pc (a0 :: a1 :: a2 :: a3 :: a4 :: a5 :: a6 :: a7 :: some (.int x) :: t) st h mc ms Q := by
  subst hv
  exact ev_iinc (x := x) n hd (by simp [ldL]) (by show stL _ 8 _ = _; simp [stL, stG, Value.category, stG_far, hp]) hi hn k
theorem ev_ild9 {a0 a1 a2 a3 a4 a5 a6 a7 a8 : Option Value} {x : Int32} {t : List (Option Value)} (n : Nat) (hd : decode (mC M) pc = .ok (.iload 9, 2)) (hn : pc + 2 = n) (k : Ev g M d n (a0 :: a1 :: a2 :: a3 :: a4 :: a5 :: a6 :: a7 :: a8 :: some (.int x) :: t) (.int x :: st) h mc ms Q) : Ev g M d pc (a0 :: a1 :: a2 :: a3 :: a4 :: a5 :: a6 :: a7 :: a8 :: some (.int x) :: t) st h mc ms Q := ev_iload n hd (by show ldL _ 9 = _; simp [ldL]) hn k
theorem ev_ist9 {a0 a1 a2 a3 a4 a5 a6 a7 a8 a9 : Option Value} {x : Int32} {t : List (Option Value)} (n : Nat) (hd : decode (mC M) pc = .ok (.istore 9, 2)) (hp : ca2 a8 = false) (hi : 9 < mL M) (hn : pc + 2 = n) (k : Ev g M d n (a0 :: a1 :: a2 :: a3 :: a4 :: a5 :: a6 :: a7 :: a8 :: some (.int x) :: t) st h mc ms Q) : Ev g M d pc (a0 :: a1 :: a2 :: a3 :: a4 :: a5 :: a6 :: a7 :: a8 :: a9 :: t) (.int x :: st) h mc ms Q := ev_istore n hd (by show stL _ 9 _ = _; simp [stL, stG, Value.category, stG_far, hp]) hi hn k
theorem ev_lld9 {a0 a1 a2 a3 a4 a5 a6 a7 a8 : Option Value} {x : Int64} {t : List (Option Value)} (n : Nat) (hd : decode (mC M) pc = .ok (.lload 9, 2)) (hn : pc + 2 = n) (k : Ev g M d n (a0 :: a1 :: a2 :: a3 :: a4 :: a5 :: a6 :: a7 :: a8 :: some (.long x) :: t) (.long x :: st) h mc ms Q) : Ev g M d pc (a0 :: a1 :: a2 :: a3 :: a4 :: a5 :: a6 :: a7 :: a8 :: some (.long x) :: t) st h mc ms Q := ev_lload n hd (by show ldL _ 9 = _; simp [ldL]) hn k
theorem ev_lst9 {a0 a1 a2 a3 a4 a5 a6 a7 a8 a9 a10 : Option Value} {x : Int64} {t : List (Option Value)} (n : Nat) (hd : decode (mC M) pc = .ok (.lstore 9, 2)) (hp : ca2 a8 = false) (hi : 10 < mL M) (hn : pc + 2 = n) (k : Ev g M d n (a0 :: a1 :: a2 :: a3 :: a4 :: a5 :: a6 :: a7 :: a8 :: some (.long x) :: none :: t) st h mc ms Q) : Ev g M d pc (a0 :: a1 :: a2 :: a3 :: a4 :: a5 :: a6 :: a7 :: a8 :: a9 :: a10 :: t) (.long x :: st) h mc ms Q := ev_lstore n hd (by show stL _ 9 _ = _; simp [stL, stG, Value.category, stG_far, hp]) hi hn k
theorem ev_ald9 {a0 a1 a2 a3 a4 a5 a6 a7 a8 : Option Value} {x : Nat} {t : List (Option Value)} (n : Nat) (hd : decode (mC M) pc = .ok (.aload 9, 2)) (hn : pc + 2 = n) (k : Ev g M d n (a0 :: a1 :: a2 :: a3 :: a4 :: a5 :: a6 :: a7 :: a8 :: some (.ref x) :: t) (.ref x :: st) h mc ms Q) : Ev g M d pc (a0 :: a1 :: a2 :: a3 :: a4 :: a5 :: a6 :: a7 :: a8 :: some (.ref x) :: t) st h mc ms Q := ev_aload n hd (by show ldL _ 9 = _; simp [ldL]) hn k
theorem ev_ast9 {a0 a1 a2 a3 a4 a5 a6 a7 a8 a9 : Option Value} {x : Nat} {t : List (Option Value)} (n : Nat) (hd : decode (mC M) pc = .ok (.astore 9, 2)) (hp : ca2 a8 = false) (hi : 9 < mL M) (hn : pc + 2 = n) (k : Ev g M d n (a0 :: a1 :: a2 :: a3 :: a4 :: a5 :: a6 :: a7 :: a8 :: some (.ref x) :: t) st h mc ms Q) : Ev g M d pc (a0 :: a1 :: a2 :: a3 :: a4 :: a5 :: a6 :: a7 :: a8 :: a9 :: t) (.ref x :: st) h mc ms Q := ev_astore n hd (by show stL _ 9 _ = _; simp [stL, stG, Value.category, stG_far, hp]) hi hn k
theorem ev_inc9 {a0 a1 a2 a3 a4 a5 a6 a7 a8 : Option Value} {z : Int} {x : Int32} {t : List (Option Value)} (v : Int32) (n : Nat) (hd : decode (mC M) pc = .ok (.iinc 9 z, 3)) (hv : Int32.ofInt z = v) (hp : ca2 a8 = false) (hi : 9 < mL M) (hn : pc + 3 = n) (k : Ev g M d n (a0 :: a1 :: a2 :: a3 :: a4 :: a5 :: a6 :: a7 :: a8 :: some (.int (x + v)) :: t) st h mc ms Q) : Ev g M d pc (a0 :: a1 :: a2 :: a3 :: a4 :: a5 :: a6 :: a7 :: a8 :: some (.int x) :: t) st h mc ms Q := by
  subst hv
  exact ev_iinc (x := x) n hd (by simp [ldL]) (by show stL _ 9 _ = _; simp [stL, stG, Value.category, stG_far, hp]) hi hn k
theorem ev_ild10 {a0 a1 a2 a3 a4 a5 a6 a7 a8 a9 : Option Value} {x : Int32} {t : List (Option Value)} (n : Nat) (hd : decode (mC M) pc = .ok (.iload 10, 2)) (hn : pc + 2 = n) (k : Ev g M d n (a0 :: a1 :: a2 :: a3 :: a4 :: a5 :: a6 :: a7 :: a8 :: a9 :: some (.int x) :: t) (.int x :: st) h mc ms Q) : Ev g M d pc (a0 :: a1 :: a2 :: a3 :: a4 :: a5 :: a6 :: a7 :: a8 :: a9 :: some (.int x) :: t) st h mc ms Q := ev_iload n hd (by show ldL _ 10 = _; simp [ldL]) hn k
theorem ev_ist10 {a0 a1 a2 a3 a4 a5 a6 a7 a8 a9 a10 : Option Value} {x : Int32} {t : List (Option Value)} (n : Nat) (hd : decode (mC M) pc = .ok (.istore 10, 2)) (hp : ca2 a9 = false) (hi : 10 < mL M) (hn : pc + 2 = n) (k : Ev g M d n (a0 :: a1 :: a2 :: a3 :: a4 :: a5 :: a6 :: a7 :: a8 :: a9 :: some (.int x) :: t) st h mc ms Q) : Ev g M d pc (a0 :: a1 :: a2 :: a3 :: a4 :: a5 :: a6 :: a7 :: a8 :: a9 :: a10 :: t) (.int x :: st) h mc ms Q := ev_istore n hd (by show stL _ 10 _ = _; simp [stL, stG, Value.category, stG_far, hp]) hi hn k
theorem ev_lld10 {a0 a1 a2 a3 a4 a5 a6 a7 a8 a9 : Option Value} {x : Int64} {t : List (Option Value)} (n : Nat) (hd : decode (mC M) pc = .ok (.lload 10, 2)) (hn : pc + 2 = n) (k : Ev g M d n (a0 :: a1 :: a2 :: a3 :: a4 :: a5 :: a6 :: a7 :: a8 :: a9 :: some (.long x) :: t) (.long x :: st) h mc ms Q) : Ev g M d pc (a0 :: a1 :: a2 :: a3 :: a4 :: a5 :: a6 :: a7 :: a8 :: a9 :: some (.long x) :: t) st h mc ms Q := ev_lload n hd (by show ldL _ 10 = _; simp [ldL]) hn k
theorem ev_lst10 {a0 a1 a2 a3 a4 a5 a6 a7 a8 a9 a10 a11 : Option Value} {x : Int64} {t : List (Option Value)} (n : Nat) (hd : decode (mC M) pc = .ok (.lstore 10, 2)) (hp : ca2 a9 = false) (hi : 11 < mL M) (hn : pc + 2 = n) (k : Ev g M d n (a0 :: a1 :: a2 :: a3 :: a4 :: a5 :: a6 :: a7 :: a8 :: a9 :: some (.long x) :: none :: t) st h mc ms Q) : Ev g M d pc (a0 :: a1 :: a2 :: a3 :: a4 :: a5 :: a6 :: a7 :: a8 :: a9 :: a10 :: a11 :: t) (.long x :: st) h mc ms Q := ev_lstore n hd (by show stL _ 10 _ = _; simp [stL, stG, Value.category, stG_far, hp]) hi hn k
theorem ev_ald10 {a0 a1 a2 a3 a4 a5 a6 a7 a8 a9 : Option Value} {x : Nat} {t : List (Option Value)} (n : Nat) (hd : decode (mC M) pc = .ok (.aload 10, 2)) (hn : pc + 2 = n) (k : Ev g M d n (a0 :: a1 :: a2 :: a3 :: a4 :: a5 :: a6 :: a7 :: a8 :: a9 :: some (.ref x) :: t) (.ref x :: st) h mc ms Q) : Ev g M d pc (a0 :: a1 :: a2 :: a3 :: a4 :: a5 :: a6 :: a7 :: a8 :: a9 :: some (.ref x) :: t) st h mc ms Q := ev_aload n hd (by show ldL _ 10 = _; simp [ldL]) hn k
theorem ev_ast10 {a0 a1 a2 a3 a4 a5 a6 a7 a8 a9 a10 : Option Value} {x : Nat} {t : List (Option Value)} (n : Nat) (hd : decode (mC M) pc = .ok (.astore 10, 2)) (hp : ca2 a9 = false) (hi : 10 < mL M) (hn : pc + 2 = n) (k : Ev g M d n (a0 :: a1 :: a2 :: a3 :: a4 :: a5 :: a6 :: a7 :: a8 :: a9 :: some (.ref x) :: t) st h mc ms Q) : Ev g M d pc (a0 :: a1 :: a2 :: a3 :: a4 :: a5 :: a6 :: a7 :: a8 :: a9 :: a10 :: t) (.ref x :: st) h mc ms Q := ev_astore n hd (by show stL _ 10 _ = _; simp [stL, stG, Value.category, stG_far, hp]) hi hn k
theorem ev_inc10 {a0 a1 a2 a3 a4 a5 a6 a7 a8 a9 : Option Value} {z : Int} {x : Int32} {t : List (Option Value)} (v : Int32) (n : Nat) (hd : decode (mC M) pc = .ok (.iinc 10 z, 3)) (hv : Int32.ofInt z = v) (hp : ca2 a9 = false) (hi : 10 < mL M) (hn : pc + 3 = n) (k : Ev g M d n (a0 :: a1 :: a2 :: a3 :: a4 :: a5 :: a6 :: a7 :: a8 :: a9 :: some (.int (x + v)) :: t) st h mc ms Q) : Ev g M d pc (a0 :: a1 :: a2 :: a3 :: a4 :: a5 :: a6 :: a7 :: a8 :: a9 :: some (.int x) :: t) st h mc ms Q := by
  subst hv
  exact ev_iinc (x := x) n hd (by simp [ldL]) (by show stL _ 10 _ = _; simp [stL, stG, Value.category, stG_far, hp]) hi hn k
theorem ev_ild11 {a0 a1 a2 a3 a4 a5 a6 a7 a8 a9 a10 : Option Value} {x : Int32} {t : List (Option Value)} (n : Nat) (hd : decode (mC M) pc = .ok (.iload 11, 2)) (hn : pc + 2 = n) (k : Ev g M d n (a0 :: a1 :: a2 :: a3 :: a4 :: a5 :: a6 :: a7 :: a8 :: a9 :: a10 :: some (.int x) :: t) (.int x :: st) h mc ms Q) : Ev g M d pc (a0 :: a1 :: a2 :: a3 :: a4 :: a5 :: a6 :: a7 :: a8 :: a9 :: a10 :: some (.int x) :: t) st h mc ms Q := ev_iload n hd (by show ldL _ 11 = _; simp [ldL]) hn k
theorem ev_ist11 {a0 a1 a2 a3 a4 a5 a6 a7 a8 a9 a10 a11 : Option Value} {x : Int32} {t : List (Option Value)} (n : Nat) (hd : decode (mC M) pc = .ok (.istore 11, 2)) (hp : ca2 a10 = false) (hi : 11 < mL M) (hn : pc + 2 = n) (k : Ev g M d n (a0 :: a1 :: a2 :: a3 :: a4 :: a5 :: a6 :: a7 :: a8 :: a9 :: a10 :: some (.int x) :: t) st h mc ms Q) : Ev g M d pc (a0 :: a1 :: a2 :: a3 :: a4 :: a5 :: a6 :: a7 :: a8 :: a9 :: a10 :: a11 :: t) (.int x :: st) h mc ms Q := ev_istore n hd (by show stL _ 11 _ = _; simp [stL, stG, Value.category, stG_far, hp]) hi hn k
theorem ev_lld11 {a0 a1 a2 a3 a4 a5 a6 a7 a8 a9 a10 : Option Value} {x : Int64} {t : List (Option Value)} (n : Nat) (hd : decode (mC M) pc = .ok (.lload 11, 2)) (hn : pc + 2 = n) (k : Ev g M d n (a0 :: a1 :: a2 :: a3 :: a4 :: a5 :: a6 :: a7 :: a8 :: a9 :: a10 :: some (.long x) :: t) (.long x :: st) h mc ms Q) : Ev g M d pc (a0 :: a1 :: a2 :: a3 :: a4 :: a5 :: a6 :: a7 :: a8 :: a9 :: a10 :: some (.long x) :: t) st h mc ms Q := ev_lload n hd (by show ldL _ 11 = _; simp [ldL]) hn k
theorem ev_lst11 {a0 a1 a2 a3 a4 a5 a6 a7 a8 a9 a10 a11 a12 : Option Value} {x : Int64} {t : List (Option Value)} (n : Nat) (hd : decode (mC M) pc = .ok (.lstore 11, 2)) (hp : ca2 a10 = false) (hi : 12 < mL M) (hn : pc + 2 = n) (k : Ev g M d n (a0 :: a1 :: a2 :: a3 :: a4 :: a5 :: a6 :: a7 :: a8 :: a9 :: a10 :: some (.long x) :: none :: t) st h mc ms Q) : Ev g M d pc (a0 :: a1 :: a2 :: a3 :: a4 :: a5 :: a6 :: a7 :: a8 :: a9 :: a10 :: a11 :: a12 :: t) (.long x :: st) h mc ms Q := ev_lstore n hd (by show stL _ 11 _ = _; simp [stL, stG, Value.category, stG_far, hp]) hi hn k
theorem ev_ald11 {a0 a1 a2 a3 a4 a5 a6 a7 a8 a9 a10 : Option Value} {x : Nat} {t : List (Option Value)} (n : Nat) (hd : decode (mC M) pc = .ok (.aload 11, 2)) (hn : pc + 2 = n) (k : Ev g M d n (a0 :: a1 :: a2 :: a3 :: a4 :: a5 :: a6 :: a7 :: a8 :: a9 :: a10 :: some (.ref x) :: t) (.ref x :: st) h mc ms Q) : Ev g M d pc (a0 :: a1 :: a2 :: a3 :: a4 :: a5 :: a6 :: a7 :: a8 :: a9 :: a10 :: some (.ref x) :: t) st h mc ms Q := ev_aload n hd (by show ldL _ 11 = _; simp [ldL]) hn k
theorem ev_ast11 {a0 a1 a2 a3 a4 a5 a6 a7 a8 a9 a10 a11 : Option Value} {x : Nat} {t : List (Option Value)} (n : Nat) (hd : decode (mC M) pc = .ok (.astore 11, 2)) (hp : ca2 a10 = false) (hi : 11 < mL M) (hn : pc + 2 = n) (k : Ev g M d n (a0 :: a1 :: a2 :: a3 :: a4 :: a5 :: a6 :: a7 :: a8 :: a9 :: a10 :: some (.ref x) :: t) st h mc ms Q) : Ev g M d pc (a0 :: a1 :: a2 :: a3 :: a4 :: a5 :: a6 :: a7 :: a8 :: a9 :: a10 :: a11 :: t) (.ref x :: st) h mc ms Q := ev_astore n hd (by show stL _ 11 _ = _; simp [stL, stG, Value.category, stG_far, hp]) hi hn k
theorem ev_inc11 {a0 a1 a2 a3 a4 a5 a6 a7 a8 a9 a10 : Option Value} {z : Int} {x : Int32} {t : List (Option Value)} (v : Int32) (n : Nat) (hd : decode (mC M) pc = .ok (.iinc 11 z, 3)) (hv : Int32.ofInt z = v) (hp : ca2 a10 = false) (hi : 11 < mL M) (hn : pc + 3 = n) (k : Ev g M d n (a0 :: a1 :: a2 :: a3 :: a4 :: a5 :: a6 :: a7 :: a8 :: a9 :: a10 :: some (.int (x + v)) :: t) st h mc ms Q) : Ev g M d pc (a0 :: a1 :: a2 :: a3 :: a4 :: a5 :: a6 :: a7 :: a8 :: a9 :: a10 :: some (.int x) :: t) st h mc ms Q := by
  subst hv
  exact ev_iinc (x := x) n hd (by simp [ldL]) (by show stL _ 11 _ = _; simp [stL, stG, Value.category, stG_far, hp]) hi hn k
end EVL
/-! words -/
theorem pw_warm {w : Cond} {s U : State} (hw : pw w = true) (hW : s.WarmedH U.vm) (h : w.before #[] s = true) : w.before #[] U = true := by
  simp only [pw, Bool.or_eq_true] at hw
  rcases hw with hw | hw
  · exact word_at hW (good_of_word hw) h
  · cases w <;> first | (cases hw; done) | exact va_Nw.warmC hW h | exact va_Nw.warmD hW h | exact va_Nw.warmM hW h | exact va_Nw.warmF hW h
theorem pw_any {w : Cond} {s : State} {A : Array Value} (hw : pw w = true) (h : w.before #[] s = true) : w.before A s = true := by
  simp only [pw, Bool.or_eq_true] at hw
  rcases hw with hw | hw
  · have hW : s.WarmedH s.vm := State.WarmedH.refl s
    exact word_at hW (good_of_word hw) h
  · cases w <;> first | (cases hw; done) | exact va_Nw.use rfl h
theorem AW.at {g : Gt} {s : State} {A : Array Value} (h : CTX g s) {w : Cond} (hm : w ∈ lw_tbl) (hw : pw w = true) : w.before A s = true := pw_any hw (h.1.2.1 w hm hw)
theorem CTX.warm {g : Gt} {s U : State} (h : CTX g s) (hW : s.WarmedH U.vm) (hz : gB g ≤ U.heap.size) (ho : ∀ a, a < gB g → U.heap[a]? = s.heap[a]?) : CTX g U := by
  obtain ⟨⟨k1, k2, k3, k4, k5, k6, kz, kt, km, kc, ko, ka⟩, k7, k8, k9, k10⟩ := h
  have ho' : ∀ a : Nat, a < s.heap.size → ¬ gF g a → U.heap[a]? = s.heap[a]? := fun a _ hn => ho a (Nat.not_le.mp hn)
  refine ⟨⟨va_K.moved hW.alike k1, fun w hm hw => pw_warm hw hW (k2 w hm hw), k3, (vx_Zq.moved hW.alike k4).kept ho', (vx_Zq.moved hW.alike k5).kept ho', fun q hq => ?_, (va_Z.moved hW.alike kz).kept ho', (va_T.moved hW.alike kt).kept ho', va_Mi.moved hW.alike km, fun q hq => va_Nc.moved hW.alike (kc q hq), va_AO.moved hW.alike ko, va_AOA.moved hW.alike ka⟩, hz, fun a ha => (ho a ha).trans (k8 a ha), (va_X.moved hW.alike k9).kept (ho _ k10), k10⟩
  obtain ⟨sa, hs⟩ := k6 q hq
  exact ⟨sa, vk_R.warm hW hs⟩
/-! the heap -/
def hup (h : AH) (a : Nat) (c : AC) : AH := fun q => if q = a then some c else h q
theorem hup_eq (h : AH) (a : Nat) (c : AC) : hup h a c a = some c := if_pos rfl
theorem hup_ne {h : AH} {a q : Nat} {c : AC} (n : q ≠ a) : hup h a c q = h q := if_neg n
def wsH (g : Gt) (h : AH) (n : Nat) : va_W := (List.range n).filterMap (fun a => if gB g ≤ a then (h a).map (fun c => (a, cvA g c)) else none)
theorem wsH_mem {g : Gt} {h : AH} {n : Nat} {q : Nat × va_E} (hq : q ∈ wsH g h n) : q.1 < n ∧ gB g ≤ q.1 ∧ ∃ c, h q.1 = some c ∧ q.2 = cvA g c := by
  obtain ⟨a, ha, hb⟩ := List.mem_filterMap.mp hq
  by_cases hz : gB g ≤ a
  · rw [if_pos hz] at hb
    cases hc : h a with
    | none => rw [hc] at hb; cases hb
    | some c =>
      rw [hc] at hb
      cases hb
      exact ⟨List.mem_range.mp ha, hz, c, hc, rfl⟩
  · rw [if_neg hz] at hb
    cases hb
theorem HR.lt {g : Gt} {h : AH} {H : Heap} (hh : HR g h H) {a : Nat} {c : AC} (ha : h a = some c) : a < H.size := (hh a c ha).lt
theorem wsH_in {g : Gt} {h : AH} {H : Heap} (hh : HR g h H) {a : Nat} {c : AC} (ha : h a = some c) (hb : gB g ≤ a) : (a, cvA g c) ∈ wsH g h H.size := by
  refine List.mem_filterMap.mpr ⟨a, List.mem_range.mpr (hh.lt ha), ?_⟩
  rw [if_pos hb, ha]
  rfl
theorem wsH_P {g : Gt} {h : AH} {H : Heap} (hh : HR g h H) : va_P (gD g) vwCl (wsH g h H.size) H := by
  intro k q hq
  obtain ⟨h1, h2, c, h3, h4⟩ := wsH_mem (List.mem_of_getElem? hq)
  have h5 := hh q.1 c h3
  rw [← h4] at h5
  exact h5
theorem wsH_nd (g : Gt) (h : AH) : ∀ (n : Nat), ((wsH g h n).map (·.1)).Nodup := by
  intro n
  induction n with
  | zero => simp [wsH]
  | succ n ih =>
    have e : wsH g h (n + 1) = wsH g h n ++ [n].filterMap (fun a => if gB g ≤ a then (h a).map (fun c => (a, cvA g c)) else none) := by
      rw [wsH, List.range_succ, List.filterMap_append]
      rfl
    rw [e, List.map_append]
    refine List.nodup_append.mpr ⟨ih, ?_, ?_⟩
    · cases hf : (if gB g ≤ n then (h n).map (fun c => (n, cvA g c)) else none) with
      | none => simp [hf]
      | some w => simp [hf]
    · intro x hx y hy hxy
      subst hxy
      obtain ⟨q, hq, e1⟩ := List.mem_map.mp hx
      obtain ⟨r, hr, e2⟩ := List.mem_map.mp hy
      have l1 := (wsH_mem hq).1
      obtain ⟨a, ha, hb⟩ := List.mem_filterMap.mp hr
      have : a = n := by simpa using ha
      subst this
      by_cases hz : gB g ≤ a
      · rw [if_pos hz] at hb
        cases hc : h a with
        | none => rw [hc] at hb; cases hb
        | some c =>
          rw [hc] at hb
          cases hb
          simp only at e2
          omega
      · rw [if_neg hz] at hb
        cases hb
theorem wsH_D (g : Gt) (h : AH) (n : Nat) : va_D (gF g) (wsH g h n) := by
  refine ⟨fun i j p q hi hj e => ?_, fun k q hq => (wsH_mem (List.mem_of_getElem? hq)).2.1⟩
  have hn := wsH_nd g h n
  have hi' : ((wsH g h n).map (·.1))[i]? = some p.1 := by rw [List.getElem?_map, hi]; rfl
  have hj' : ((wsH g h n).map (·.1))[j]? = some q.1 := by rw [List.getElem?_map, hj]; rfl
  have li := (List.getElem?_eq_some_iff.mp hi').1
  have lj := (List.getElem?_eq_some_iff.mp hj').1
  have gi := (List.getElem?_eq_some_iff.mp hi').2
  have gj := (List.getElem?_eq_some_iff.mp hj').2
  exact (List.getElem_inj hn).mp (gi.trans (e.trans gj.symm))
/-- behind a store -/
theorem HR.set {g : Gt} {h : AH} {H H1 H0 : Heap} {locs locs1 : List Loc} {a q0 : Nat} {c0 c : AC} {e : va_E} (hh : HR g h H) (hb : gB g ≤ H0.size) (hS : va_S (gF g) H0 H locs) (hS1 : va_S (gF g) H0 H1 locs1) (hq : (wsH g h H.size)[q0]? = some (a, cvA g c0)) (he : e = cvA g c) (hP : va_P (gD g) vwCl ((wsH g h H.size).set q0 (a, e)) H1) : HR g (hup h a c) H1 := by
  intro b cb hcb
  by_cases hba : b = a
  · subst hba
    rw [hup_eq] at hcb
    cases hcb
    have l := (List.getElem?_eq_some_iff.mp hq).1
    have := hP q0 (b, e) (by rw [List.getElem?_set_self l])
    rw [he] at this
    exact this
  · rw [hup_ne hba] at hcb
    by_cases hz : gB g ≤ b
    · obtain ⟨q1, hq1⟩ := List.getElem?_of_mem (wsH_in hh hcb hz)
      have hne : q0 ≠ q1 := by
        intro e
        subst e
        have e9 : (a, cvA g c0) = (b, cvA g cb) := Option.some.inj (hq.symm.trans hq1)
        exact hba (congrArg Prod.fst e9).symm
      exact hP q1 (b, cvA g cb) (by rw [List.getElem?_set_ne hne]; exact hq1)
    · have hn : ¬ gF g b := hz
      have lt : b < H0.size := Nat.lt_of_lt_of_le (Nat.not_le.mp hz) hb
      exact (hh b cb hcb).kept (((hS1.2.1 b lt hn)).trans (hS.2.1 b lt hn).symm)
/-- behind a making -/
theorem HR.new {g : Gt} {h : AH} {H H1 H0 : Heap} {locs locs1 : List Loc} {a : Nat} {c : AC} {e : va_E} (hh : HR g h H) (hb : gB g ≤ H0.size) (hS : va_S (gF g) H0 H locs) (hS1 : va_S (gF g) H0 H1 locs1) (he : e = cvA g c) (hP : va_P (gD g) vwCl (wsH g h H.size ++ [(a, e)]) H1) (hD : va_D (gF g) (wsH g h H.size ++ [(a, e)])) : h a = none ∧ gB g ≤ a ∧ HR g (hup h a c) H1 := by
  have hlast : (wsH g h H.size ++ [(a, e)])[(wsH g h H.size).length]? = some (a, e) := by simp
  have hga : gB g ≤ a := hD.2 _ _ hlast
  have hno : h a = none := by
    cases hc : h a with
    | none => rfl
    | some c1 =>
      obtain ⟨q1, hq1⟩ := List.getElem?_of_mem (wsH_in hh hc hga)
      have l := (List.getElem?_eq_some_iff.mp hq1).1
      have hq2 : (wsH g h H.size ++ [(a, e)])[q1]? = some (a, cvA g c1) := by rw [List.getElem?_append_left l]; exact hq1
      have := hD.1 _ _ _ _ hq2 hlast rfl
      omega
  refine ⟨hno, hga, ?_⟩
  intro b cb hcb
  by_cases hba : b = a
  · subst hba
    rw [hup_eq] at hcb
    cases hcb
    have := hP _ _ hlast
    rw [he] at this
    exact this
  · rw [hup_ne hba] at hcb
    by_cases hz : gB g ≤ b
    · obtain ⟨q1, hq1⟩ := List.getElem?_of_mem (wsH_in hh hcb hz)
      have l := (List.getElem?_eq_some_iff.mp hq1).1
      exact hP q1 (b, cvA g cb) (by rw [List.getElem?_append_left l]; exact hq1)
    · have hn : ¬ gF g b := hz
      have lt : b < H0.size := Nat.lt_of_lt_of_le (Nat.not_le.mp hz) hb
      exact (hh b cb hcb).kept (((hS1.2.1 b lt hn)).trans (hS.2.1 b lt hn).symm)
theorem HR.one {g : Gt} {h : AH} {H : Heap} (hh : HR g h H) {a : Nat} {c : AC} (ha : h a = some c) : va_P (gD g) vwCl [(a, cvA g c)] H := by
  intro k q hq
  have hz : k < 1 := (List.getElem?_eq_some_iff.mp hq).1
  rw [show k = 0 by omega] at hq
  cases hq
  exact hh a c ha
/-! links, said of the tables alone -/
def FL (own : String) (index ci k : Nat) : Prop := ∃ q : vw_C, vwCl[ci]? = some q ∧ k < q.2.2 ∧ (∀ w ∈ u_ws q.1 q.2.1 q.2.2, w ∈ lw_tbl ∧ pw w = true) ∧ Cond.fieldLink own index (q.2.1 k).1 (q.2.1 k).2.1 (q.2.1 k).2.2.1 ∈ lw_tbl
def FP (ci k : Nat) (ty : FieldType) (fin : Bool) : Prop := ∀ q : vw_C, vwCl[ci]? = some q → (∃ ty0 : Nat → FieldType, ∀ k, k < q.2.2 → parseFieldDescriptor (q.2.1 k).2.2.1 = some (ty0 k)) ∧ (∀ a, a < q.2.2 → ∀ b, b < q.2.2 → a ≠ b → (q.2.1 a).2.1 ≠ (q.2.1 b).2.1) ∧ (q.2.1 k).2.2.2 = fin ∧ parseFieldDescriptor (q.2.1 k).2.2.1 = some ty
section EVH
variable {g : Gt} {M : Mt} {d pc : Nat} {ls : List (Option Value)} {st : List Value} {h : AH} {mc ms : Nat} {Q : RT → AH → Prop}
theorem ev_getfield {a index : Nat} {fs : List Value} {v : Value} (n ci k : Nat) (F : FL (mY M).cls index ci k) (ha : h a = some (.inr (ci, fs))) (hv : fs[k]? = some v) (hd : decode (mC M) pc = .ok (.getfield index, 3)) (hn : pc + 3 = n) (kk : Ev g M d n ls (v :: st) h mc ms Q) : Ev g M d pc ls (.ref a :: st) h mc ms Q := by
  subst hn
  intro p e s m args below meth c H locs cells slots lsA tc ts hM hS hL h1 h2
  obtain ⟨q, f1, f2, f3, f4⟩ := F
  obtain ⟨m1, m2, m3, m4, m5, m6, m7, m8, m9⟩ := id hM
  refine va_get (D := gD g) (cl := vwCl) (tys := gT g) (ci := ci) (v := v) (C := q.1) (T := q.2.1) (N := q.2.2) (Ts := u_ws q.1 q.2.1 q.2.2) (own := (mY M).cls) m1 m2 (fun w hw => AW.at m9 (f3 w hw).1 (f3 w hw).2) (fun _ hw => hw) m4 m9.1.1 (hS.1.one ha) 0 rfl f1 k f2 (AW.at m9 f4 rfl) (fun _ z => z) hv hd ?_
  exact kk p e s m args below meth c H locs cells slots lsA tc ts hM hS hL h1 h2
theorem ev_putfield {a index : Nat} {fs : List Value} {v : Value} (n ci k : Nat) (ty : FieldType) (F : FL (mY M).cls index ci k) (P : FP ci k ty false) (ha : h a = some (.inr (ci, fs))) (hb : gB g ≤ a) (hnar : narrow ty v = v) (hfit : fits ty v = true) (hl : k < fs.length) (hd : decode (mC M) pc = .ok (.putfield index, 3)) (hn : pc + 3 = n) (kk : Ev g M d n ls st (hup h a (.inr (ci, fs.set k v))) mc ms Q) : Ev g M d pc ls (v :: .ref a :: st) h mc ms Q := by
  subst hn
  intro p e s m args below meth c H locs cells slots lsA tc ts hM hS hL h1 h2
  obtain ⟨q, f1, f2, f3, f4⟩ := F
  obtain ⟨⟨ty0, p1⟩, p2, p3, p4⟩ := P q f1
  obtain ⟨m1, m2, m3, m4, m5, m6, m7, m8, m9⟩ := id hM
  obtain ⟨q0, hq0⟩ := List.getElem?_of_mem (wsH_in hS.1 ha hb)
  refine va_put (D := gD g) (cl := vwCl) (tys := gT g) (ci := ci) (v := v) (ty := ty) (C := q.1) (T := q.2.1) (N := q.2.2) (Ts := u_ws q.1 q.2.1 q.2.2) (own := (mY M).cls) m1 m2 (fun w hw => AW.at m9 (f3 w hw).1 (f3 w hw).2) (fun _ hw => hw) ty0 p1 p2 m4 m9.1.1 (wsH_P hS.1) (wsH_D g h H.size) hS.2 q0 hq0 f1 k f2 (AW.at m9 f4 rfl) (fun _ z => z) p3 p4 hnar hfit hl hd (fun H1 locs1 hP1 hD1 hS1 => ?_)
  exact kk p e s m args below meth c H1 locs1 cells slots lsA tc ts hM ⟨hS.1.set m9.2.1 hS.2 hS1 hq0 rfl hP1, hS1⟩ hL h1 h2
theorem ev_putfin {a index : Nat} {fs : List Value} {v : Value} (n ci k : Nat) (ty : FieldType) (F : FL (mY M).cls index ci k) (P : FP ci k ty true) (hinit : (mY M).name = "<init>") (hdecl : ∀ q : vw_C, vwCl[ci]? = some q → (q.2.1 k).1 = (mY M).cls) (ha : h a = some (.inr (ci, fs))) (hb : gB g ≤ a) (hnar : narrow ty v = v) (hfit : fits ty v = true) (hl : k < fs.length) (hd : decode (mC M) pc = .ok (.putfield index, 3)) (hn : pc + 3 = n) (kk : Ev g M d n ls st (hup h a (.inr (ci, fs.set k v))) mc ms Q) : Ev g M d pc ls (v :: .ref a :: st) h mc ms Q := by
  subst hn
  intro p e s m args below meth c H locs cells slots lsA tc ts hM hS hL h1 h2
  obtain ⟨q, f1, f2, f3, f4⟩ := F
  obtain ⟨⟨ty0, p1⟩, p2, p3, p4⟩ := P q f1
  obtain ⟨m1, m2, m3, m4, m5, m6, m7, m8, m9⟩ := id hM
  obtain ⟨q0, hq0⟩ := List.getElem?_of_mem (wsH_in hS.1 ha hb)
  refine va_putF (D := gD g) (cl := vwCl) (tys := gT g) (ci := ci) (v := v) (ty := ty) (C := q.1) (T := q.2.1) (N := q.2.2) (Ts := u_ws q.1 q.2.1 q.2.2) (own := (mY M).cls) m1 m2 (fun w hw => AW.at m9 (f3 w hw).1 (f3 w hw).2) (fun _ hw => hw) ty0 p1 p2 m4 m9.1.1 (wsH_P hS.1) (wsH_D g h H.size) hS.2 q0 hq0 f1 k f2 (AW.at m9 f4 rfl) (fun _ z => z) p3 (m7.trans hinit) (hdecl q f1) p4 hnar hfit hl hd (fun H1 locs1 hP1 hD1 hS1 => ?_)
  exact kk p e s m args below meth c H1 locs1 cells slots lsA tc ts hM ⟨hS.1.set m9.2.1 hS.2 hS1 hq0 rfl hP1, hS1⟩ hL h1 h2
theorem ev_iaload {a len : Nat} {f : Nat → Int32} {i : Int32} (n : Nat) (ha : h a = some (.inl (0, len, .inl f))) (hin : vp_in i len) (hd : decode (mC M) pc = .ok (.iaload, 1)) (hn : pc + 1 = n) (kk : Ev g M d n ls (.int (f i.toNatClampNeg) :: st) h mc ms Q) : Ev g M d pc ls (.int i :: .ref a :: st) h mc ms Q := by
  subst hn
  intro p e s m args below meth c H locs cells slots lsA tc ts hM hS hL h1 h2
  exact va_iald hM.1 hM.2.1 hM.2.2.2.2.2.2.2.2.1.1 (hS.1.one ha) 0 0 rfl rfl hin hd (kk p e s m args below meth c H locs cells slots lsA tc ts hM hS hL h1 h2)
theorem ev_zaload {a len : Nat} {f : Nat → Int32} {i : Int32} (n : Nat) (ha : h a = some (.inl (1, len, .inl f))) (hin : vp_in i len) (hd : decode (mC M) pc = .ok (.baload, 1)) (hn : pc + 1 = n) (kk : Ev g M d n ls (.int (f i.toNatClampNeg) :: st) h mc ms Q) : Ev g M d pc ls (.int i :: .ref a :: st) h mc ms Q := by
  subst hn
  intro p e s m args below meth c H locs cells slots lsA tc ts hM hS hL h1 h2
  exact va_zald hM.1 hM.2.1 hM.2.2.2.2.2.2.2.2.1.1 (hS.1.one ha) 0 1 rfl rfl hin hd (kk p e s m args below meth c H locs cells slots lsA tc ts hM hS hL h1 h2)
theorem ev_caload {a len : Nat} {f : Nat → Int32} {i : Int32} (n : Nat) (ha : h a = some (.inl (2, len, .inl f))) (hin : vp_in i len) (hd : decode (mC M) pc = .ok (.caload, 1)) (hn : pc + 1 = n) (kk : Ev g M d n ls (.int (f i.toNatClampNeg) :: st) h mc ms Q) : Ev g M d pc ls (.int i :: .ref a :: st) h mc ms Q := by
  subst hn
  intro p e s m args below meth c H locs cells slots lsA tc ts hM hS hL h1 h2
  exact va_cald hM.1 hM.2.1 hM.2.2.2.2.2.2.2.2.1.1 (hS.1.one ha) 0 2 rfl rfl hin hd (kk p e s m args below meth c H locs cells slots lsA tc ts hM hS hL h1 h2)
theorem ev_alen {a ki : Nat} {x : vp_A} {ty : FieldType} (n : Nat) (ha : h a = some (.inl (ki, x))) (ht : (gT g)[ki]? = some (gA g ki, ty)) (hd : decode (mC M) pc = .ok (.arraylength, 1)) (hn : pc + 1 = n) (kk : Ev g M d n ls (.int (Int32.ofNat x.1) :: st) h mc ms Q) : Ev g M d pc ls (.ref a :: st) h mc ms Q := by
  subst hn
  intro p e s m args below meth c H locs cells slots lsA tc ts hM hS hL h1 h2
  exact va_alen hM.1 hM.2.1 hM.2.2.2.2.2.2.2.2.1.1 (hS.1.one ha) 0 ki rfl ht rfl hd (kk p e s m args below meth c H locs cells slots lsA tc ts hM hS hL h1 h2)
theorem ev_iastore {a len : Nat} {f : Nat → Int32} {i : Int32} {x : Int32} (n : Nat) (ha : h a = some (.inl (0, len, .inl f))) (hb : gB g ≤ a) (hin : vp_in i len) (hd : decode (mC M) pc = .ok (.iastore, 1)) (hn : pc + 1 = n) (kk : Ev g M d n ls st (hup h a (.inl (0, len, .inl (upd f i.toNatClampNeg x)))) mc ms Q) : Ev g M d pc ls (.int x :: .int i :: .ref a :: st) h mc ms Q := by
  subst hn
  intro p e s m args below meth c H locs cells slots lsA tc ts hM hS hL h1 h2
  obtain ⟨q0, hq0⟩ := List.getElem?_of_mem (wsH_in hS.1 ha hb)
  refine va_iast hM.1 hM.2.1 hM.2.2.2.2.2.2.2.2.1.1 (wsH_P hS.1) (wsH_D g h H.size) hS.2 q0 0 hq0 rfl hin hd (fun H1 locs1 hP1 hD1 hS1 => ?_)
  exact kk p e s m args below meth c H1 locs1 cells slots lsA tc ts hM ⟨hS.1.set hM.2.2.2.2.2.2.2.2.2.1 hS.2 hS1 hq0 rfl hP1, hS1⟩ hL h1 h2
theorem ev_zastore {a len : Nat} {f : Nat → Int32} {i : Int32} {x : Int32} (n : Nat) (ha : h a = some (.inl (1, len, .inl f))) (hb : gB g ≤ a) (hin : vp_in i len) (hx : x = 0 ∨ x = 1) (hd : decode (mC M) pc = .ok (.bastore, 1)) (hn : pc + 1 = n) (kk : Ev g M d n ls st (hup h a (.inl (1, len, .inl (upd f i.toNatClampNeg x)))) mc ms Q) : Ev g M d pc ls (.int x :: .int i :: .ref a :: st) h mc ms Q := by
  subst hn
  intro p e s m args below meth c H locs cells slots lsA tc ts hM hS hL h1 h2
  obtain ⟨q0, hq0⟩ := List.getElem?_of_mem (wsH_in hS.1 ha hb)
  refine va_zast hM.1 hM.2.1 hM.2.2.2.2.2.2.2.2.1.1 (wsH_P hS.1) (wsH_D g h H.size) hS.2 q0 1 hq0 rfl hin hd (fun H1 locs1 hP1 hD1 hS1 => ?_)
  exact kk p e s m args below meth c H1 locs1 cells slots lsA tc ts hM ⟨hS.1.set hM.2.2.2.2.2.2.2.2.2.1 hS.2 hS1 hq0 (by rw [show vp_nar .boolean x = x by rcases hx with e | e <;> subst e <;> decide]; rfl) hP1, hS1⟩ hL h1 h2
theorem ev_castore {a len : Nat} {f : Nat → Int32} {i : Int32} {x : Int32} (n : Nat) (ha : h a = some (.inl (2, len, .inl f))) (hb : gB g ≤ a) (hin : vp_in i len) (hx : vp_nar .char x = x) (hd : decode (mC M) pc = .ok (.castore, 1)) (hn : pc + 1 = n) (kk : Ev g M d n ls st (hup h a (.inl (2, len, .inl (upd f i.toNatClampNeg x)))) mc ms Q) : Ev g M d pc ls (.int x :: .int i :: .ref a :: st) h mc ms Q := by
  subst hn
  intro p e s m args below meth c H locs cells slots lsA tc ts hM hS hL h1 h2
  obtain ⟨q0, hq0⟩ := List.getElem?_of_mem (wsH_in hS.1 ha hb)
  refine va_cast hM.1 hM.2.1 hM.2.2.2.2.2.2.2.2.1.1 (wsH_P hS.1) (wsH_D g h H.size) hS.2 q0 2 hq0 rfl hin hd (fun H1 locs1 hP1 hD1 hS1 => ?_)
  exact kk p e s m args below meth c H1 locs1 cells slots lsA tc ts hM ⟨hS.1.set hM.2.2.2.2.2.2.2.2.2.1 hS.2 hS1 hq0 (by rw [hx]; rfl) hP1, hS1⟩ hL h1 h2
theorem ev_ireturn {v : Int32} (hq : Q (.inl (some (.int v))) h) (hr : mR M = some .int) (hd : decode (mC M) pc = .ok (.ireturn, 1)) : Ev g M d pc ls [.int v] h mc ms Q := by
  intro p e s m args below meth c H locs cells slots lsA tc ts hM hS hL h1 h2
  refine W.widen (k := tc) (n := ts) (by omega) (by omega) (vx_ret ?_)
  exact W.iret hM.1 hM.2.1 (hM.2.2.1.trans hr) (fun t ht hW => ⟨⟨_, h, rfl, hq, by rw [ht]; exact hS.1⟩, hS.2.F ht⟩) hS.2.2.2 hd hM.2.2.2.2.2.1
theorem ev_zreturn {v : Int32} {ty : FieldType} (hq : Q (.inl (some (.int v))) h) (hr : mR M = some ty) (hnar : narrow ty (.int v) = .int v) (hd : decode (mC M) pc = .ok (.ireturn, 1)) : Ev g M d pc ls [.int v] h mc ms Q := by
  intro p e s m args below meth c H locs cells slots lsA tc ts hM hS hL h1 h2
  refine W.widen (k := tc) (n := ts) (by omega) (by omega) (vx_ret ?_)
  exact W.zret hM.1 hM.2.1 (hM.2.2.1.trans hr) hnar (fun t ht hW => ⟨⟨_, h, rfl, hq, by rw [ht]; exact hS.1⟩, hS.2.F ht⟩) hS.2.2.2 hd hM.2.2.2.2.2.1
theorem ev_lreturn {v : Int64} (hq : Q (.inl (some (.long v))) h) (hr : mR M = some .long) (hd : decode (mC M) pc = .ok (.lreturn, 1)) : Ev g M d pc ls [.long v] h mc ms Q := by
  intro p e s m args below meth c H locs cells slots lsA tc ts hM hS hL h1 h2
  refine W.widen (k := tc) (n := ts) (by omega) (by omega) (vx_ret ?_)
  exact W.lret hM.1 hM.2.1 (hM.2.2.1.trans hr) (fun t ht hW => ⟨⟨_, h, rfl, hq, by rw [ht]; exact hS.1⟩, hS.2.F ht⟩) hS.2.2.2 hd hM.2.2.2.2.2.1
theorem ev_freturn {v : UInt32} (hq : Q (.inl (some (.float v))) h) (hr : mR M = some .float) (hd : decode (mC M) pc = .ok (.freturn, 1)) : Ev g M d pc ls [.float v] h mc ms Q := by
  intro p e s m args below meth c H locs cells slots lsA tc ts hM hS hL h1 h2
  refine W.widen (k := tc) (n := ts) (by omega) (by omega) (vx_ret ?_)
  exact W.fret hM.1 hM.2.1 (hM.2.2.1.trans hr) (fun t ht hW => ⟨⟨_, h, rfl, hq, by rw [ht]; exact hS.1⟩, hS.2.F ht⟩) hS.2.2.2 hd hM.2.2.2.2.2.1
theorem ev_dreturn {v : UInt64} (hq : Q (.inl (some (.double v))) h) (hr : mR M = some .double) (hd : decode (mC M) pc = .ok (.dreturn, 1)) : Ev g M d pc ls [.double v] h mc ms Q := by
  intro p e s m args below meth c H locs cells slots lsA tc ts hM hS hL h1 h2
  refine W.widen (k := tc) (n := ts) (by omega) (by omega) (vx_ret ?_)
  exact W.dret hM.1 hM.2.1 (hM.2.2.1.trans hr) (fun t ht hW => ⟨⟨_, h, rfl, hq, by rw [ht]; exact hS.1⟩, hS.2.F ht⟩) hS.2.2.2 hd hM.2.2.2.2.2.1
theorem ev_areturn {v : Nat} {nm : String} (hq : Q (.inl (some (.ref v))) h) (hr : mR M = some (.object nm)) (hd : decode (mC M) pc = .ok (.areturn, 1)) : Ev g M d pc ls [.ref v] h mc ms Q := by
  intro p e s m args below meth c H locs cells slots lsA tc ts hM hS hL h1 h2
  refine W.widen (k := tc) (n := ts) (by omega) (by omega) (vx_ret ?_)
  exact W.aret hM.1 hM.2.1 (hM.2.2.1.trans hr) (Or.inl ⟨_, rfl⟩) (Or.inr ⟨_, rfl⟩) (fun t ht hW => ⟨⟨_, h, rfl, hq, by rw [ht]; exact hS.1⟩, hS.2.F ht⟩) hS.2.2.2 hd hM.2.2.2.2.2.1
theorem ev_areturnA {v : Nat} {ty : FieldType} (hq : Q (.inl (some (.ref v))) h) (hr : mR M = some (.array ty)) (hd : decode (mC M) pc = .ok (.areturn, 1)) : Ev g M d pc ls [.ref v] h mc ms Q := by
  intro p e s m args below meth c H locs cells slots lsA tc ts hM hS hL h1 h2
  refine W.widen (k := tc) (n := ts) (by omega) (by omega) (vx_ret ?_)
  exact W.aret hM.1 hM.2.1 (hM.2.2.1.trans hr) (Or.inr ⟨_, rfl⟩) (Or.inr ⟨_, rfl⟩) (fun t ht hW => ⟨⟨_, h, rfl, hq, by rw [ht]; exact hS.1⟩, hS.2.F ht⟩) hS.2.2.2 hd hM.2.2.2.2.2.1
theorem ev_vreturn (hq : Q (.inl none) h) (hr : mR M = none) (hd : decode (mC M) pc = .ok (.return_, 1)) : Ev g M d pc ls [] h mc ms Q := by
  intro p e s m args below meth c H locs cells slots lsA tc ts hM hS hL h1 h2
  refine W.widen (k := tc) (n := ts) (by omega) (by omega) (vx_ret ?_)
  exact W.vret hM.1 hM.2.1 (hM.2.2.1.trans hr) (fun t ht hW => ⟨⟨_, h, rfl, hq, by rw [ht]; exact hS.1⟩, hS.2.F ht⟩) hS.2.2.2 hd hM.2.2.2.2.2.1
theorem ev_mono {mc2 ms2 : Nat} (h1 : mc ≤ mc2) (h2 : ms ≤ ms2) (k : Ev g M d pc ls st h mc ms Q) : Ev g M d pc ls st h mc2 ms2 Q := by
  intro p e s m args below meth c H locs cells slots lsA tc ts hM hS hL h3 h4
  exact k p e s m args below meth c H locs cells slots lsA tc ts hM hS hL (by omega) (by omega)
theorem ev_heap {h2 : AH} (hw : ∀ a c, h2 a = some c → h a = some c) (k : Ev g M d pc ls st h2 mc ms Q) : Ev g M d pc ls st h mc ms Q := by
  intro p e s m args below meth c H locs cells slots lsA tc ts hM hS hL h3 h4
  exact k p e s m args below meth c H locs cells slots lsA tc ts hM ⟨fun a c z => hS.1 a c (hw a c z), hS.2⟩ hL h3 h4
theorem ev_locals {ls2 : List (Option Value)} (hw : ∀ i v, ldL ls2 i = some v → ldL ls i = some v) (k : Ev g M d pc ls2 st h mc ms Q) : Ev g M d pc ls st h mc ms Q := by
  intro p e s m args below meth c H locs cells slots lsA tc ts hM hS hL h3 h4
  exact k p e s m args below meth c H locs cells slots lsA tc ts hM hS (hL.weaken hw) h3 h4
/-- new: cell at a place that was nothing -/
def NW (own : String) (index ci : Nat) (fs : List Value) : Prop := ∃ q : vw_C, vwCl[ci]? = some q ∧ (∀ w ∈ u_ws q.1 q.2.1 q.2.2, w ∈ lw_tbl ∧ pw w = true) ∧ (∃ ty0 : Nat → FieldType, (∀ k, k < q.2.2 → parseFieldDescriptor (q.2.1 k).2.2.1 = some (ty0 k)) ∧ ∀ j, j < q.2.2 → defaultValue (ty0 j) = vp_V fs j) ∧ q.2.2 = fs.length ∧ Cond.classLink own index q.1 ∈ lw_tbl ∧ Cond.instantiable q.1 q.2.2 ∈ lw_tbl ∧ Cond.initialized q.1 ∈ lw_tbl
theorem ev_new {index : Nat} {fs : List Value} (n ci : Nat) (N : NW (mY M).cls index ci fs) (hd : decode (mC M) pc = .ok (.new index, 3)) (hn : pc + 3 = n) (kk : ∀ q, h q = none → gB g ≤ q → Ev g M d n ls (.ref q :: st) (hup h q (.inr (ci, fs))) mc ms Q) : Ev g M d pc ls st h (mc + 1) (ms + fs.length) Q := by
  subst hn
  intro p e s m args below meth c H locs cells slots lsA tc ts hM hS hL h1 h2
  obtain ⟨q, f1, f2, ⟨ty0, f3, f4⟩, f5, f6, f7, f8⟩ := N
  obtain ⟨m1, m2, m3, m4, m5, m6, m7, m8, m9⟩ := id hM
  refine va_new (D := gD g) (cl := vwCl) (tys := gT g) (ci := ci) (fs := fs) (C := q.1) (T := q.2.1) (N := q.2.2) (Ts := u_ws q.1 q.2.1 q.2.2) (own := (mY M).cls) m1 m2 (fun w hw => AW.at m9 (f2 w hw).1 (f2 w hw).2) (fun _ hw => hw) ty0 f3 m4 (AW.at m9 f6 rfl) (AW.at m9 f7 rfl) (AW.at m9 f8 rfl) m9.1.1 (wsH_P hS.1) (wsH_D g h H.size) hS.2 (fun z hz => Nat.le_trans m9.2.1 hz) f1 f4 (show cells + 1 ≤ tc by omega) (show slots + q.2.2 ≤ ts by omega) hd (fun qa H1 hP1 hD1 hS1 => ?_)
  obtain ⟨g1, g2, g3⟩ := hS.1.new (c := .inr (ci, fs)) m9.2.1 hS.2 hS1 rfl hP1 hD1
  exact kk qa g1 g2 p e s m args below meth c H1 locs (cells + 1) (slots + q.2.2) lsA tc ts hM ⟨g3, hS1⟩ hL (by omega) (by omega)
end EVH
/-! results, by kind -/
def noX : String → AH → Prop := fun _ _ => False
def Qi (P : Int32 → AH → Prop) (X : String → AH → Prop) : RT → AH → Prop := fun r h => match r with
  | .inl (some (.int z)) => P z h
  | .inr E => X E h
  | _ => False
def Ql (P : Int64 → AH → Prop) (X : String → AH → Prop) : RT → AH → Prop := fun r h => match r with
  | .inl (some (.long z)) => P z h
  | .inr E => X E h
  | _ => False
def Qr (P : Nat → AH → Prop) (X : String → AH → Prop) : RT → AH → Prop := fun r h => match r with
  | .inl (some (.ref z)) => P z h
  | .inr E => X E h
  | _ => False
def Qf (P : UInt32 → AH → Prop) (X : String → AH → Prop) : RT → AH → Prop := fun r h => match r with
  | .inl (some (.float z)) => P z h
  | .inr E => X E h
  | _ => False
def Qd (P : UInt64 → AH → Prop) (X : String → AH → Prop) : RT → AH → Prop := fun r h => match r with
  | .inl (some (.double z)) => P z h
  | .inr E => X E h
  | _ => False
def Qv (P : AH → Prop) (X : String → AH → Prop) : RT → AH → Prop := fun r h => match r with
  | .inl none => P h
  | .inr E => X E h
  | _ => False
/-- an exception of class E lies over the method's frame at pc: what the method does with it leads to Q -/
def Xv (g : Gt) (M : Mt) (d pc : Nat) (ls : List (Option Value)) (E : String) (h : AH) (mc ms : Nat) (Q : RT → AH → Prop) : Prop :=
  ∀ (p : Program) (e : Env) (s : State) (m : MethodId) (args : Array Value) (below : List Frame) (meth : Method) (c : Code) (H : Heap) (locs : List Loc) (cells slots : Nat) (lsA : Array Slot) (tc ts : Nat) (rest : List Value) (q : Addr) (ce : Cell),
    MX g M p s m args meth c → SX g h s H locs → LX lsA (mL M) ls → cells + mc ≤ tc → slots + ms ≤ ts → H[q]? = some ce → ce.vm = .none → s.vm.findClass E = some ce.cls →
    vx_W p (gL g) e (rmD d tc ts) s m args below meth c H locs cells slots (vx_MQ below (QcO g Q) (XcO g Q) args s tc ts (gF g)) (F0 m pc lsA rest) q
section EVC
variable {g : Gt} {M M2 : Mt} {d d1 pc : Nat} {ls : List (Option Value)} {st st0 : List Value} {h : AH} {mc ms mc1 ms1 : Nat} {Q Q1 : RT → AH → Prop}
theorem xv_out {E : String} (hh : mH M = []) (hq : Q (.inr E) h) : Xv g M d pc ls E h mc ms Q := by
  intro p e s m args below meth c H locs cells slots lsA tc ts rest q ce hM hS hL h1 h2 hc hv hf
  have htab : c.exceptionTable.toList = [] := by rw [hM.2.2.2.2.2.2.2.1, hh]; rfl
  refine vx_out (E := E) (ce := ce) (by rw [htab]; intro x hx; cases hx) hM.2.2.2.2.2.1 hc hv hf (fun t ht hA => ⟨⟨h, hq, by rw [ht]; exact hS.1⟩, ?_⟩) hS.2.2.2 (by omega) (by omega)
  exact ⟨by rw [ht]; exact hS.2.1, fun z hz hn => by rw [ht]; exact hS.2.2.1 z hz hn⟩
/-- out of a run of a callee -/
theorem ev_of_vrun {As : Array Value} (n : Nat) (hrun : ∀ (p : Program) (e : Env) (s : State) (m : MethodId) (args : Array Value) (below : List Frame) (meth : Method) (c : Code) (H : Heap) (locs : List Loc) (cells slots : Nat) (lsA : Array Slot) (tc ts : Nat),
    MX g M p s m args meth c → SX g h s H locs → LX lsA (mL M) ls → cells + (mc1 + mc) ≤ tc → slots + (ms1 + ms) ≤ ts →
    vx_Run p (gL g) e (rmD d tc ts) s m args below meth c H locs cells slots mc1 ms1 (F0 m pc lsA st0) st (QcO g Q1 As) (XcO g Q1) (gF g))
    (hn : pc + 3 = n) (kr : ∀ v h', Q1 (.inl v) h' → Ev g M d n ls (v.toList ++ st) h' mc ms Q) (kx : ∀ E h', Q1 (.inr E) h' → Xv g M d pc ls E h' mc ms Q) : Ev g M d pc ls st0 h (mc1 + mc) (ms1 + ms) Q := by
  subst hn
  intro p e s m args below meth c H locs cells slots lsA tc ts hM hS hL h1 h2
  intro T hT X
  rcases hrun p e s m args below meth c H locs cells slots lsA tc ts hM hS hL h1 h2 T hT X with ⟨v, st₀, t, T', L, h0, X', hLf, e1, e2, ⟨⟨v', h', hv, hq, hHR⟩, hF⟩, stp⟩ | ⟨q, st₀, t, T', L, E, ce, h0, X', hLf, e1, e2, ⟨⟨h', hq, hHR⟩, hF⟩, hce, hcv, hcl, stp⟩
  · cases hv
    obtain ⟨k1, k2, k3⟩ := vx_keep h0 e1 hS.2 (fun _ _ z => z) (fun _ z => z) hLf hF
    obtain ⟨t2, a1, b1⟩ := kr v h' hq p e s m args below meth c T'.heap (locs ++ L) (cells + mc1) (slots + ms1) lsA tc ts hM ⟨by rw [e1]; exact hHR, k3⟩ hL (by omega) (by omega) T' rfl X'
    exact ⟨t2, stp t2 a1, b1⟩
  · obtain ⟨k1, k2, k3⟩ := vx_keep h0 e1 hS.2 (fun _ _ z => z) (fun _ z => z) hLf hF
    obtain ⟨t2, a1, b1⟩ := kx E h' hq p e s m args below meth c T'.heap (locs ++ L) (cells + mc1) (slots + ms1) lsA tc ts st q ce hM ⟨by rw [e1]; exact hHR, k3⟩ hL (by omega) (by omega) (by rw [e1]; exact hce) hcv hcl T' rfl X'
    exact ⟨t2, stp.trans a1, b1⟩
theorem vrun_of_run {p : Program} {l : Launch} {e : Env} {R : Room} {s : State} {m : MethodId} {args : Array Value} {below : List Frame} {meth : Method} {c : Code} {H : Heap} {locs : List Loc} {cells slots mc ms : Nat} {gg : JFrame} {rest : List Value} {Qa : State → Outcome → State → Prop} {XC : String → State → State → Prop} {free : Addr → Prop}
    (hr : va_Run p l e R s m args below meth c H locs cells slots mc ms gg rest Qa free) : vx_Run p l e R s m args below meth c H locs cells slots mc ms gg rest Qa XC free := by
  intro T hT X
  exact Or.inl (hr T hT X)
theorem ct_blind {av : List Value} : FrameBlind (fun a U => a = av.toArray ∧ CTX g U ∧ HR g h U.heap) := by
  intro a U gg mk hq
  exact ⟨hq.1, hq.2.1.warm (State.WarmedH.refl U) hq.2.1.2.1 (fun _ _ => rfl), hq.2.2⟩
theorem ct_at {av : List Value} {s U : State} {H : Heap} {locs : List Loc} (hC : CTX g s) (hS : SX g h s H locs) (hU : U.heap = H) (hW : s.WarmedH U.vm) : (fun (a : Array Value) (U : State) => a = av.toArray ∧ CTX g U ∧ HR g h U.heap) av.toArray U := by
  refine ⟨rfl, hC.warm hW (by rw [hU]; exact Nat.le_trans hC.2.1 hS.2.1) (fun a ha => by rw [hU]; exact hS.2.2.1 a (Nat.lt_of_lt_of_le ha hC.2.1) (Nat.not_le.mpr ha)), by rw [hU]; exact hS.1⟩
/-- what a link of a method says, by the tables alone: M2 is called by 'own' at 'index', with n arguments -/
def LK (own : String) (index : Nat) (M2 : Mt) (n : Nat) : Prop := mH M2 = [] ∧ Cond.methodLink own index (mY M2) ∈ lw_tbl ∧ Cond.code (mY M2) (mC M2) (mL M2) (mR M2) ∈ lw_tbl ∧ Cond.initialized (mY M2).cls ∈ lw_tbl ∧ mL M2 ≤ 27 ∧
  ((mY M2).cls ≠ "java/lang/invoke/MethodHandle" ∧ (mY M2).cls ≠ "java/lang/invoke/VarHandle" ∧ (parseMethodDescriptor (mY M2).desc).map (fun d => d.parameters.length) = some n)
def LKv (own : String) (index : Nat) (M2 : Mt) (n : Nat) : Prop := LK own index M2 n ∧ Cond.instanceMethod (mY M2) ∈ lw_tbl ∧ Cond.selects (mY M2).cls (mY M2) (mY M2) ∈ lw_tbl
def LKs (own : String) (index : Nat) (M2 : Mt) (n : Nat) : Prop := LK own index M2 n ∧ Cond.static (mY M2) ∈ lw_tbl
def LKi (own : String) (index : Nat) (M2 : Mt) (n : Nat) : Prop := LK own index M2 n ∧ Cond.instanceMethod (mY M2) ∈ lw_tbl ∧ (mY M2).name = "<init>" ∧ mR M2 = none
theorem mW_code (hh : mH M2 = []) : mWs M2 = Cond.code (mY M2) (mC M2) (mL M2) (mR M2) :: [] := by
  show [mW M2] = _
  unfold mW
  rw [hh]
theorem lk_callB {own : String} {index n : Nat} {s : State} {args : Array Value} {R : Room} (hC : CTX g s) (L : LK own index M2 n) (hR : d1 + 1 ≤ R.frames ∧ 8 + (mL M2 + 11) + 46 * d1 ≤ R.locals) : CallB R s args own index (mY M2) (mC M2) (mL M2) (mR M2) (mWs M2) (rmD d1 mc1 ms1) mc1 ms1 n := by
  obtain ⟨l1, l2, l3, l4, l5, l6⟩ := L
  have e := mW_code l1
  refine ⟨rfl, rfl, hR.1, hR.2, ?_, by rw [e]; exact List.mem_cons_self, AW.at hC l3 rfl, AW.at hC l4 rfl, ⟨l6.1, l6.2.1⟩, fun sig hs => ?_, AW.at hC l2 rfl⟩
  · intro w hw a' U hW
    rw [e] at hw
    rw [List.mem_singleton.mp hw]
    exact word_at hW (good_of_word rfl) (AW.at (A := args) hC l3 rfl)
  · have h2 := l6.2.2
    rw [hs] at h2
    exact (Option.some.inj h2).symm
theorem rm_le (h1 : d1 < d) (h2 : mL M2 ≤ 27) (tc ts : Nat) : d1 + 1 ≤ (rmD d tc ts).frames ∧ 8 + (mL M2 + 11) + 46 * d1 ≤ (rmD d tc ts).locals := ⟨h1, by show _ ≤ 46 * d; omega⟩
theorem recv_at {C : String} {T : u_T} {N ci b : Nat} {fs : List Value} {s : State} {H : Heap} {locs : List Loc} (hC : CTX g s) (hS : SX g h s H locs) (hb : h b = some (.inr (ci, fs))) (hc : vwCl[ci]? = some (C, T, N)) : ∃ cellB : Cell, H[b]? = some cellB ∧ cellB.vm.isStatics = false ∧ s.vm.findClass C = some cellB.cls :=
  va_recv hC.1.1 (hS.1.one hb) (q := (C, T, N)) (ci := ci) (q0 := 0) hc rfl
theorem ev_callV {index b k : Nat} {As : List Value} {fs : List Value} (n ci : Nat) (L : LKv (mY M).cls index M2 k) (hc : Ct g M2 d1 (.ref b :: As) h mc1 ms1 Q1) (hd1 : d1 < d) (hb : h b = some (.inr (ci, fs))) (hci : vwCl[ci]?.map (·.1) = some (mY M2).cls) (hk : As.length = k) (hst : st0 = As.reverse ++ .ref b :: st) (hcat : (st.map fun v => v.category).sum ≤ 8) (hd : decode (mC M) pc = .ok (.invokevirtual index, 3)) (hn : pc + 3 = n)
    (kr : ∀ v h', Q1 (.inl v) h' → Ev g M d n ls (v.toList ++ st) h' mc ms Q) (kx : ∀ E h', Q1 (.inr E) h' → Xv g M d pc ls E h' mc ms Q) : Ev g M d pc ls st0 h (mc1 + mc) (ms1 + ms) Q := by
  subst hst
  refine ev_of_vrun (As := (Value.ref b :: As).toArray) n (fun p e s m args below meth c H locs cells slots lsA tc ts hM hS hL h1 h2 => ?_) hn kr kx
  have hC := hM.2.2.2.2.2.2.2.2
  obtain ⟨q, hq1, hq2⟩ := Option.map_eq_some_iff.mp hci
  obtain ⟨C, T, N⟩ := q
  have hq2 : C = (mY M2).cls := hq2
  subst hq2
  exact vx_runV (Ts := [Cond.code (mY M2) (mC M2) (mL M2) (mR M2)]) (C := (mY M2).cls) (n := k) ⟨hM.1, hM.2.1, hM.2.2.2.2.1, hM.2.2.2.1, fun w hw => by rw [List.mem_singleton.mp hw]; exact AW.at hC L.1.2.2.1 rfl⟩ hc ⟨lk_callB hC L.1 (rm_le hd1 L.1.2.2.2.2.1 tc ts), AW.at hC L.2.1 rfl, AW.at hC L.2.2 rfl⟩ ⟨ct_blind, recv_at hC hS hb hq1, fun U hU hW => ct_at hC hS hU hW⟩ rfl hk hL.1 rfl (lv_room hcat) hd ⟨by show cells + mc1 ≤ tc; omega, by show slots + ms1 ≤ ts; omega⟩
theorem ev_callS {index k : Nat} {As : List Value} (n : Nat) (L : LKs (mY M).cls index M2 k) (hc : Ct g M2 d1 As h mc1 ms1 Q1) (hd1 : d1 < d) (hk : As.length = k) (hst : st0 = As.reverse ++ st) (hcat : (st.map fun v => v.category).sum ≤ 8) (hd : decode (mC M) pc = .ok (.invokestatic index, 3)) (hn : pc + 3 = n)
    (kr : ∀ v h', Q1 (.inl v) h' → Ev g M d n ls (v.toList ++ st) h' mc ms Q) (kx : ∀ E h', Q1 (.inr E) h' → Xv g M d pc ls E h' mc ms Q) : Ev g M d pc ls st0 h (mc1 + mc) (ms1 + ms) Q := by
  subst hst
  refine ev_of_vrun (As := As.toArray) n (fun p e s m args below meth c H locs cells slots lsA tc ts hM hS hL h1 h2 => ?_) hn kr kx
  have hC := hM.2.2.2.2.2.2.2.2
  exact vx_runS (Ts := [Cond.code (mY M2) (mC M2) (mL M2) (mR M2)]) (n := k) ⟨hM.1, hM.2.1, hM.2.2.2.2.1, hM.2.2.2.1, fun w hw => by rw [List.mem_singleton.mp hw]; exact AW.at hC L.1.2.2.1 rfl⟩ hc ⟨lk_callB hC L.1 (rm_le hd1 L.1.2.2.2.2.1 tc ts), AW.at hC L.2 rfl⟩ ⟨ct_blind, fun U hU hW => ct_at hC hS hU hW⟩ rfl hk hL.1 rfl (lv_room hcat) hd ⟨by show cells + mc1 ≤ tc; omega, by show slots + ms1 ≤ ts; omega⟩
theorem ev_callI {index b k : Nat} {As : List Value} (n : Nat) (L : LKi (mY M).cls index M2 k) (hc : Cn g M2 d1 (.ref b :: As) h mc1 ms1 Q1) (hd1 : d1 < d) (hk : As.length = k) (hst : st0 = As.reverse ++ .ref b :: st) (hcat : (st.map fun v => v.category).sum ≤ 8) (hd : decode (mC M) pc = .ok (.invokespecial index, 3)) (hn : pc + 3 = n)
    (kr : ∀ v h', Q1 (.inl v) h' → Ev g M d n ls (v.toList ++ st) h' mc ms Q) (kx : ∀ E h', Q1 (.inr E) h' → Xv g M d pc ls E h' mc ms Q) : Ev g M d pc ls st0 h (mc1 + mc) (ms1 + ms) Q := by
  subst hst
  refine ev_of_vrun (As := (Value.ref b :: As).toArray) n (fun p e s m args below meth c H locs cells slots lsA tc ts hM hS hL h1 h2 => ?_) hn kr kx
  have hC := hM.2.2.2.2.2.2.2.2
  have hcb := lk_callB (args := args) (R := rmD d tc ts) (mc1 := mc1) (ms1 := ms1) hC L.1 (rm_le hd1 L.1.2.2.2.2.1 tc ts)
  rw [L.2.2.2] at hcb
  exact vrun_of_run (va_runI (Ts := [Cond.code (mY M2) (mC M2) (mL M2) (mR M2)]) (n := k) ⟨hM.1, hM.2.1, hM.2.2.2.2.1, hM.2.2.2.1, fun w hw => by rw [List.mem_singleton.mp hw]; exact AW.at hC L.1.2.2.1 rfl⟩ hc ⟨hcb, L.2.2.1, AW.at hC L.2.1 rfl⟩ ⟨ct_blind, fun U hU hW => ct_at hC hS hU hW⟩ rfl hk hL.1 rfl (lv_room hcat) hd ⟨by show cells + mc1 ≤ tc; omega, by show slots + ms1 ≤ ts; omega⟩)
end EVC
/-! entries and throws -/
def slV : Slot → Option Value
  | .val v => some v
  | _ => none
def entL (n : Nat) (av : List Value) : List (Option Value) := (lg_sl av ++ List.replicate (n - (lg_sl av).length) Slot.unset).map slV
theorem slV_val {s : Slot} {v : Value} (h : slV s = some v) : s = .val v := by
  cases s <;> simp [slV] at h
  rw [h]
theorem lx_entry {av : List Value} {n : Nat} {ls : List (Option Value)} (hls : entL n av = ls) (hlen : (lg_sl av).length ≤ n) : LX ((lg_sl av ++ List.replicate (n - (lg_sl av).length) Slot.unset).toArray) n ls := by
  have h := lv_entry av hlen
  refine ⟨h.1, h.2.1, fun i v hv => ?_⟩
  subst hls
  unfold ldL entL at hv
  rw [List.getElem?_map] at hv
  cases hl : (lg_sl av ++ List.replicate (n - (lg_sl av).length) Slot.unset)[i]? with
  | none => rw [hl] at hv; simp at hv
  | some sl =>
    rw [hl] at hv
    cases hs : slV sl with
    | none => simp [hs] at hv
    | some w =>
      simp [hs] at hv
      subst hv
      rw [slV_val hs] at hl
      simpa using hl
section EVE
variable {g : Gt} {M : Mt} {d pc : Nat} {ls : List (Option Value)} {st : List Value} {h : AH} {mc ms : Nat} {Q : RT → AH → Prop}
theorem ct_of_ev {av : List Value} (hp : plainName (mY M).cls = true) (hh : mH M = []) (hls : entL (mL M) av = ls) (hlen : (lg_sl av).length ≤ mL M) (k : Ev g M d 0 ls [] h mc ms Q) : Ct g M d av h mc ms Q := by
  refine vx_ofW (cc := mC M) (maxL := mL M) (ret := mR M) hp (mW_code hh) ?_
  intro p e s m args below meth c s₁ B hml htab hv
  obtain ⟨rfl, hC, hHR⟩ := hv
  rw [lg_entry_eq]
  exact k p e s m _ below meth c s.heap [] 0 0 _ mc ms ⟨B.exec, B.bytes, B.returns, findClass_of_methodNamed B.named, hml, B.notSynchronized, (name_of_methodNamed B.named B.method).1, by rw [hh]; exact List.eq_nil_iff_forall_not_mem.mpr htab, hC⟩ ⟨hHR, va_S.rf⟩ (lx_entry hls hlen) (by omega) (by omega)
theorem mW_with {x : Nat × Nat × Nat × Nat} {r : List (Nat × Nat × Nat × Nat)} (hh : mH M = x :: r) : mWs M = Cond.codeWith (mY M) (mC M) (mL M) (mR M) (mH M) :: [] := by
  show [mW M] = _
  unfold mW
  rw [hh]
theorem ct_of_evH {av : List Value} {x : Nat × Nat × Nat × Nat} {r : List (Nat × Nat × Nat × Nat)} (hp : plainName (mY M).cls = true) (hh : mH M = x :: r) (hls : entL (mL M) av = ls) (hlen : (lg_sl av).length ≤ mL M) (k : Ev g M d 0 ls [] h mc ms Q) : Ct g M d av h mc ms Q := by
  refine vx_ofWH (cc := mC M) (maxL := mL M) (ret := mR M) (hh := mH M) hp (mW_with hh) ?_
  intro p e s m args below meth c s₁ B hml hv
  obtain ⟨rfl, hC, hHR⟩ := hv
  have hw := atoms_spec (ws := mWs M) B.pre
  rw [mW_with hh] at hw
  rw [lg_entry_eq]
  exact k p e s m _ below meth c s.heap [] 0 0 _ mc ms ⟨B.exec, B.bytes, B.returns, findClass_of_methodNamed B.named, hml, B.notSynchronized, (name_of_methodNamed B.named B.method).1, vx_table (x := mY M) (bytes := mC M) (maxL' := mL M) (ret' := mR M) B (hw _ List.mem_cons_self), hC⟩ ⟨hHR, va_S.rf⟩ (lx_entry hls hlen) (by omega) (by omega)
theorem cn_of_ct {av : List Value} (hx : ∀ E h', ¬ Q (.inr E) h') (c : Ct g M d av h mc ms Q) : Cn g M d av h mc ms Q := by
  intro p e ha hc hk s m args below hf happ hP hK
  obtain ⟨n, o, a1, a2, a3, a4⟩ := c p e ha hc hk s m args below hf happ hP hK
  refine ⟨n, o, a1, a2, a3, ?_⟩
  rcases a4 with z | ⟨q, -, hT⟩
  · exact z
  · obtain ⟨E, ce, L, ⟨⟨h', hq, -⟩, -⟩, -⟩ := hT
    exact absurd hq (hx E h')
def TH (own : String) (ik is ic : Nat) (cls text : String) (names : List String) : Prop := Bundle.fit cls = true ∧ (∀ n ∈ names, Bundle.fit n = true) ∧ Cond.classLink own ik cls ∈ lw_tbl ∧ Cond.initialized cls ∈ lw_tbl ∧ (own, is, text) ∈ lw_strs ∧ (∀ w ∈ vx_atS own ic cls names, w ∈ lw_tbl ∧ pw w = true) ∧ (∀ w ∈ Cond.classLink own ik cls :: Cond.initialized cls :: vx_atS own ic cls names, vx_ot w = true)
theorem th_post {cls : String} {s t : State} {H : Heap} {locs : List Loc} (hq : Q (.inr cls) h) (hS : SX g h s H locs) (hz : H.size ≤ t.heap.size) (ho : ∀ q : Nat, q < H.size → t.heap[q]? = H[q]?) : XcO g Q cls s t := by
  refine ⟨⟨h, hq, fun a c hc => (hS.1 a c hc).kept (ho a (hS.1.lt hc))⟩, Nat.le_trans hS.2.1 hz, fun q hq hn => ?_⟩
  rw [ho q (Nat.lt_of_lt_of_le hq hS.2.1)]
  exact hS.2.2.1 q hq hn
theorem ev_throwS {ik is ic : Nat} {cls text : String} {names : List String} (T : TH (mY M).cls ik is ic cls text names) (hh : mH M = []) (hq : Q (.inr cls) h) (hdep : names.length + 3 < d) (hroom : (st.map fun v => v.category).sum + (13 * (names.length + 1) + 43) ≤ 46 * d)
    (d0 : decode (mC M) pc = .ok (.new ik, 3)) (d3 : decode (mC M) (pc + 3) = .ok (.dup, 1)) (d4 : decode (mC M) (pc + 4) = .ok (.ldc is, 2)) (d6 : decode (mC M) (pc + 6) = .ok (.invokespecial ic, 3)) (d9 : decode (mC M) (pc + 9) = .ok (.athrow, 1)) (hmc : 1 ≤ mc) (hms : 6 ≤ ms) : Ev g M d pc ls st h mc ms Q := by
  intro p e s m args below meth c H locs cells slots lsA tc ts hM hS hL h1 h2
  obtain ⟨t1, t2, t3, t4, t5, t6, t7⟩ := T
  obtain ⟨m1, m2, m3, m4, m5, m6, m7, m8, m9⟩ := id hM
  obtain ⟨sa, hsa⟩ := m9.1.2.2.2.2.2.1 _ t5
  have htab : c.exceptionTable.toList = [] := by rw [m8, hh]; rfl
  exact vx_throwS (text := text) (names := names) (ik := ik) (is := is) (ic := ic) (sa := sa) (A := gF g) m1 m2 m9.1.2.2.1 m4 t1 t2 (AW.at m9 t3 rfl) (AW.at m9 t4 rfl) hsa (fun w hw => AW.at m9 (t6 w hw).1 (t6 w hw).2) t7 m9.1.2.2.2.1 m9.1.2.2.2.2.1 hS.2 (hL.1.trans m5.symm) d0 d3 d4 d6 d9 (by rw [htab]; intro x hx; cases hx) hdep hroom (show cells + 1 ≤ tc by omega) (show slots + 6 ≤ ts by omega) m6 (fun t _ hz ho => th_post hq hS hz ho) hS.2.2.2 (by omega) (by omega)
theorem ev_throwSW {ik is ic : Nat} {cls text : String} {names : List String} (T : TH (mY M).cls ik is ic cls text names) (hh : mH M = []) (hq : Q (.inr cls) h) (hdep : names.length + 3 < d) (hroom : (st.map fun v => v.category).sum + (13 * (names.length + 1) + 43) ≤ 46 * d)
    (d0 : decode (mC M) pc = .ok (.new ik, 3)) (d3 : decode (mC M) (pc + 3) = .ok (.dup, 1)) (d4 : decode (mC M) (pc + 4) = .ok (.ldc_w is, 3)) (d6 : decode (mC M) (pc + 7) = .ok (.invokespecial ic, 3)) (d9 : decode (mC M) (pc + 10) = .ok (.athrow, 1)) (hmc : 1 ≤ mc) (hms : 6 ≤ ms) : Ev g M d pc ls st h mc ms Q := by
  intro p e s m args below meth c H locs cells slots lsA tc ts hM hS hL h1 h2
  obtain ⟨t1, t2, t3, t4, t5, t6, t7⟩ := T
  obtain ⟨m1, m2, m3, m4, m5, m6, m7, m8, m9⟩ := id hM
  obtain ⟨sa, hsa⟩ := m9.1.2.2.2.2.2.1 _ t5
  have htab : c.exceptionTable.toList = [] := by rw [m8, hh]; rfl
  exact vx_throwSW (text := text) (names := names) (ik := ik) (is := is) (ic := ic) (sa := sa) (A := gF g) m1 m2 m9.1.2.2.1 m4 t1 t2 (AW.at m9 t3 rfl) (AW.at m9 t4 rfl) hsa (fun w hw => AW.at m9 (t6 w hw).1 (t6 w hw).2) t7 m9.1.2.2.2.1 m9.1.2.2.2.2.1 hS.2 (hL.1.trans m5.symm) d0 d3 d4 d6 d9 (by rw [htab]; intro x hx; cases hx) hdep hroom (show cells + 1 ≤ tc by omega) (show slots + 6 ≤ ts by omega) m6 (fun t _ hz ho => th_post hq hS hz ho) hS.2.2.2 (by omega) (by omega)
end EVE
