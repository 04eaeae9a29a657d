/-! LISTS: remove, clear -/
theorem acw : ACw := ⟨List.mem_of_getElem? (i := 385) (by decide +kernel), List.mem_of_getElem? (i := 384) (by decide +kernel), List.mem_of_getElem? (i := 58) (by decide +kernel)⟩
theorem acl_X0_87 : Cond.methodLink RX0 87 arraycopyName ∈ lw_tbl := List.mem_of_getElem? (i := 383) (by decide +kernel)
theorem acl_J7_150 : Cond.methodLink RJ7 150 arraycopyName ∈ lw_tbl := List.mem_of_getElem? (i := 654) (by decide +kernel)
theorem acl_Jx4a65c_112 : Cond.methodLink RJx4a65c 112 arraycopyName ∈ lw_tbl := List.mem_of_getElem? (i := 1025) (by decide +kernel)
theorem cas_S : Cond.castable "Prereqs$Student" "java/lang/Object" ∈ lw_tbl := List.mem_of_getElem? (i := 1143) (by decide +kernel)
/-! rows -/
section RU5
variable {g : Gt} {α : AL} {ν : Nat → Nat → Bool} {X : XM} {M M2 : Mt} {d d1 pc : Nat} {ls : List (Option Value)} {st : List Value} {h : AH} {mc ms : Nat} {Q : RT → AH → Prop}
theorem TR.setx (hT : TR g α ν X h) {k i : Nat} (hv : vk ν k i = true) (x : Nat → Int) (hr : k ≠ 91 → ∀ j, R31 (x j)) {c : AC} (hc : c = cellK g α k i x) : TR g α ν (xw X k i x) (hup h (α k i) c) := by
  refine ⟨fun k' i' hv' => ⟨?_, (hT.1 k' i' hv').2⟩, hT.2.1, fun k' i' j' h91 => ?_, hT.2.2.2⟩
  · by_cases e : k' = k ∧ i' = i
    · obtain ⟨rfl, rfl⟩ := e
      rw [hup_eq, xw_at, hc]
    · rw [hup_ne (fun z => e (hT.2.1 k' i' k i hv' hv z)), xw_ne e]
      exact (hT.1 k' i' hv').1
  · by_cases e : k' = k ∧ i' = i
    · obtain ⟨rfl, rfl⟩ := e
      rw [xw_at]; exact hr h91 j'
    · rw [xw_ne e]; exact hT.rng k' i' j' h91
theorem ev_dup_x1 {va vb : Value} (n : Nat) (hd : decode (mC M) pc = .ok (.dup_x1, 1)) (hva : va.category = 1) (hvb : vb.category = 1) (hn : pc + 1 = n) (kk : Ev g M d n ls (va :: vb :: va :: st) h mc ms Q) : Ev g M d pc ls (va :: vb :: st) h mc ms Q := by
  subst hn
  intro p e s m args below meth c H locs cells slots lsA tc ts hM hS hL h1 h2
  exact lv_dup_x1 hM.1 hM.2.1 hd hva hvb (kk p e s m args below meth c H locs cells slots lsA tc ts hM hS hL h1 h2)
theorem tv_aastN {i : Nat} {z : Int} (n : Nat) (hT : TR g α ν X h) (hv : vk ν 2 i = true) (j : Nat) (hz : z = (j : Int)) (hj : j < (X 2 i 0).toNat) (hl : (X 2 i 0).toNat < 2147483648) (hd : decode (mC M) pc = .ok (.aastore, 1)) (hn : pc + 1 = n) (kk : ∀ h', TR g α ν (xs X 2 i (j + 1) (-1)) h' → Ev g M d n ls st h' mc ms Q) : Ev g M d pc ls (.null :: .int (J z) :: .ref (α 2 i) :: st) h mc ms Q := by
  subst hz
  obtain ⟨h1, h2⟩ := hT.1 2 i hv
  refine ev_aastoreN n hd h1 h2 (J_in hj hl) hn ?_
  rw [J_clampN (by omega)]
  refine kk _ ?_
  have e : xs X 2 i (j + 1) (-1) = xw X 2 i (fun q => if q = j + 1 then -1 else X 2 i q) := rfl
  rw [e]
  refine hT.setx hv _ (fun _ q => ?_) ?_
  · by_cases c : q = j + 1
    · simp only [c, if_true]; exact ⟨by omega, by omega⟩
    · simp only [c, if_false]; exact hT.rng _ _ _
  · rw [show cellK g α 2 i (fun q => if q = j + 1 then -1 else X 2 i q) = ck2 g α i (fun q => if q = j + 1 then -1 else X 2 i q) from rfl]
    unfold ck2
    refine congrArg Sum.inl (congrArg (Prod.mk 3) ?_)
    refine Prod.ext (by simp) ?_
    refine congrArg (fun f => (Sum.inr (Sum.inr (Sum.inr (Sum.inr f))))) (funext fun q => ?_)
    unfold va_up
    by_cases c : q = j
    · subst c; simp [el]
    · simp [c]
def FLS (own : String) (index ci k : Nat) : Prop := ∃ (q : vw_C) (D : String), vwCl[ci]? = some q ∧ k < q.2.2 ∧ (∀ w ∈ u_ws q.1 q.2.1 q.2.2, w ∈ lw_tbl ∧ pw w = true) ∧ Cond.fieldLink own index D (q.2.1 k).2.1 (q.2.1 k).2.2.1 ∈ lw_tbl ∧ Cond.sameField D (q.2.1 k).1 (q.2.1 k).2.1 (q.2.1 k).2.2.1 ∈ lw_tbl
theorem ev_getfieldS {a index : Nat} {fs : List Value} {v : Value} (n ci k : Nat) (F : FLS (mY M).cls index ci k) (ha : h a = some (.inr (ci, fs))) (hv : fs[k]? = some v) (hd : decode (mC M) pc = .ok (.getfield index, 3)) (hn : pc + 3 = n) (kk : Ev g M d n ls (v :: st) h mc ms Q) : Ev g M d pc ls (.ref a :: st) h mc ms Q := by
  subst hn
  intro p e s m args below meth c H locs cells slots lsA tc ts hM hS hL h1 h2
  obtain ⟨q, D, f1, f2, f3, f4, f5⟩ := F
  obtain ⟨m1, m2, m3, m4, m5, m6, m7, m8, m9⟩ := id hM
  refine va_get (D := gD g) (cl := vwCl) (tys := gT g) (ci := ci) (v := v) (C := q.1) (T := q.2.1) (N := q.2.2) (Ts := u_ws q.1 q.2.1 q.2.2) (own := (mY M).cls) m1 m2 (fun w hw => AW.at m9 (f3 w hw).1 (f3 w hw).2) (fun _ hw => hw) m4 m9.1.1 (hS.1.one ha) 0 rfl f1 k f2 (AW.at m9 f4 rfl) (fun x9 h9 => u_same (AW.at (A := args) m9 f5 rfl) x9 h9) hv hd ?_
  exact kk p e s m args below meth c H locs cells slots lsA tc ts hM hS hL h1 h2
theorem ev_putfieldS {a index : Nat} {fs : List Value} {v : Value} (n ci k : Nat) (ty : FieldType) (F : FLS (mY M).cls index ci k) (P : FP ci k ty false) (ha : h a = some (.inr (ci, fs))) (hb : gB g ≤ a) (hnar : narrow ty v = v) (hfit : fits ty v = true) (hl : k < fs.length) (hd : decode (mC M) pc = .ok (.putfield index, 3)) (hn : pc + 3 = n) (kk : Ev g M d n ls st (hup h a (.inr (ci, fs.set k v))) mc ms Q) : Ev g M d pc ls (v :: .ref a :: st) h mc ms Q := by
  subst hn
  intro p e s m args below meth c H locs cells slots lsA tc ts hM hS hL h1 h2
  obtain ⟨q, D, f1, f2, f3, f4, f5⟩ := F
  obtain ⟨⟨ty0, p1⟩, p2, p3, p4⟩ := P q f1
  obtain ⟨m1, m2, m3, m4, m5, m6, m7, m8, m9⟩ := id hM
  obtain ⟨q0, hq0⟩ := List.getElem?_of_mem (wsH_in hS.1 ha hb)
  refine va_put (D := gD g) (cl := vwCl) (tys := gT g) (ci := ci) (v := v) (ty := ty) (C := q.1) (T := q.2.1) (N := q.2.2) (Ts := u_ws q.1 q.2.1 q.2.2) (own := (mY M).cls) m1 m2 (fun w hw => AW.at m9 (f3 w hw).1 (f3 w hw).2) (fun _ hw => hw) ty0 p1 p2 m4 m9.1.1 (wsH_P hS.1) (wsH_D g h H.size) hS.2 q0 hq0 f1 k f2 (AW.at m9 f4 rfl) (fun x9 h9 => u_same (AW.at (A := args) m9 f5 rfl) x9 h9) p3 p4 hnar hfit hl hd (fun H1 locs1 hP1 hD1 hS1 => ?_)
  exact kk p e s m args below meth c H1 locs1 cells slots lsA tc ts hM ⟨hS.1.set m9.2.1 hS.2 hS1 hq0 rfl hP1, hS1⟩ hL h1 h2
theorem tv_putiS {k i ci : Nat} {F : (Nat → Int) → List Value} {v : Int} {index : Nat} (n s : Nat) (ty : FieldType) (FLk : FLS (mY M).cls index ci s) (P : FP ci s ty false) (hT : TR g α ν X h) (hv : vk ν k i = true) (hk : ∀ x, cellK g α k i x = .inr (ci, F x)) (hs : (F (X k i)).set s (.int (J v)) = F (fun j' => if j' = s then v else X k i j')) (hl : s < (F (X k i)).length) (hnar : narrow ty (.int (J v)) = .int (J v)) (hfit : fits ty (.int (J v)) = true) (hr : R31 v) (hd : decode (mC M) pc = .ok (.putfield index, 3)) (hn : pc + 3 = n) (kk : ∀ h', TR g α ν (xs X k i s v) h' → Ev g M d n ls st h' mc ms Q) : Ev g M d pc ls (.int (J v) :: .ref (α k i) :: st) h mc ms Q := by
  obtain ⟨h1, h2⟩ := hT.is hv (hk _)
  exact ev_putfieldS n ci s ty FLk P h1 h2 hnar hfit hl hd hn (kk _ (hT.setf hv hk s hr hs))
/-- the elements of a list of students go down by one, from the place k on -/
theorem tv_copyW {index c : Nat} {sp dp z : Int} (n k s : Nat) (hT : TR g α ν X h) (hv : vk ν 2 (4 + c) = true) (hsp : sp = (k : Int) + 1) (hdp : dp = (k : Int)) (hz : z = (s : Int) - 1 - k) (hks : k + 1 < s) (hs : s ≤ (X 2 (4 + c) 0).toNat) (hcap : X 2 (4 + c) 0 ≤ 1000) (hel : ∀ j, j < s → 0 ≤ X 2 (4 + c) (j + 1) ∧ X 2 (4 + c) (j + 1) < 16 ∧ ν 4 (X 2 (4 + c) (j + 1)).toNat = true)
    (hd : decode (mC M) pc = .ok (.invokestatic index, 3)) (hl : Cond.methodLink (mY M).cls index arraycopyName ∈ lw_tbl) (hdd : 4 ≤ d) (hcat : (st.map fun v => v.category).sum ≤ 8) (hn : pc + 3 = n)
    (kk : ∀ h', TR g α ν (xw X 2 (4 + c) (fun j => if k + 1 ≤ j ∧ j < s then X 2 (4 + c) (j + 1) else X 2 (4 + c) j)) h' → Ev g M d n ls st h' mc ms Q) : Ev g M d pc ls (.int (J z) :: .int (J dp) :: .ref (α 2 (4 + c)) :: .int (J sp) :: .ref (α 2 (4 + c)) :: st) h mc ms Q := by
  obtain ⟨h1, h2⟩ := hT.1 2 (4 + c) hv
  have c1 : (J sp).toNatClampNeg = k + 1 := by rw [J_clamp ⟨by omega, by omega⟩]; omega
  have c2 : (J dp).toNatClampNeg = k := by rw [J_clamp ⟨by omega, by omega⟩]; omega
  have c3 : (J z).toNatClampNeg = s - 1 - k := by rw [J_clamp ⟨by omega, by omega⟩]; omega
  refine ev_copyO n hd hl acw h1 h1 h2 h2 (by rw [J_lt0 ⟨by omega, by omega⟩]; omega) (by rw [J_lt0 ⟨by omega, by omega⟩]; omega) (by rw [J_lt0 ⟨by omega, by omega⟩]; omega) (by rw [c1, c3]; omega) (by rw [c2, c3]; omega) (fun i hi y hy => ?_) hdd hcat hn ?_
  · rw [c1] at hy
    rw [c3] at hi
    obtain ⟨q1, q2, q3⟩ := hel (k + 1 + i) (by omega)
    have hy2 : el α (ek (4 + c)) (X 2 (4 + c) (k + 1 + i + 1)) = some y := hy
    rw [ek_w, el_of (show X 2 (4 + c) (k + 1 + i + 1) = ((X 2 (4 + c) (k + 1 + i + 1)).toNat : Int) by omega)] at hy2
    rw [← Option.some.inj hy2]
    exact ⟨_, _, "Prereqs$Student", tr4 hT q3 (by omega), rfl, cas_S⟩
  · rw [c1, c2, c3]
    refine kk _ (hT.setx hv _ (fun _ j => ?_) ?_)
    · by_cases q : k + 1 ≤ j ∧ j < s
      · simp only [q, if_true, and_self]; exact hT.rng _ _ _
      · simp only [q, if_false]; exact hT.rng _ _ _
    · rw [show cellK g α 2 (4 + c) (fun j => if k + 1 ≤ j ∧ j < s then X 2 (4 + c) (j + 1) else X 2 (4 + c) j) = ck2 g α (4 + c) (fun j => if k + 1 ≤ j ∧ j < s then X 2 (4 + c) (j + 1) else X 2 (4 + c) j) from rfl]
      unfold ck2
      refine congrArg Sum.inl (congrArg (Prod.mk 3) ?_)
      refine Prod.ext (by simp) ?_
      refine congrArg (fun f => (Sum.inr (Sum.inr (Sum.inr (Sum.inr f))))) (funext fun q => ?_)
      unfold va_cpy
      show (if k ≤ q ∧ q < k + (s - 1 - k) then _ else _) = el α (ek (4 + c)) (if k + 1 ≤ q + 1 ∧ q + 1 < s then X 2 (4 + c) (q + 1 + 1) else X 2 (4 + c) (q + 1))
      by_cases e : k ≤ q ∧ q < k + (s - 1 - k)
      · rw [if_pos e, if_pos ⟨by omega, by omega⟩]
        show el α (ek (4 + c)) (X 2 (4 + c) (k + 1 + (q - k) + 1)) = _
        rw [show k + 1 + (q - k) + 1 = q + 1 + 1 by omega]
      · rw [if_neg e, if_neg (fun z => e ⟨by omega, by omega⟩)]
end RU5
theorem lw_cg {ν : Nat → Nat → Bool} {X X1 : XM} {i : Nat} (hL : LW ν X i) (e1 : X1 1 i 1 = X 1 i 1) (e2 : X1 1 i 2 = X 1 i 2) (e3 : X1 2 i 0 = X 2 i 0) : LW ν X1 i := by
  unfold LW
  rw [e1, e2, e3]
  exact hL

theorem lv_mk {X X1 X2 : XM} {c k s : Nat} (h1 : X1 = xs X 1 (4 + c) 0 (wr (X 1 (4 + c) 0 + 1))) (hs : X 1 (4 + c) 2 = (s : Int)) (hk : k < s) (h2 : (X2 = X1 ∧ s = k + 1) ∨ X2 = xw X1 2 (4 + c) (fun j => if k + 1 ≤ j ∧ j < s then X1 2 (4 + c) (j + 1) else X1 2 (4 + c) j)) : xs (xs X2 1 (4 + c) 2 ((s : Int) - 1)) 2 (4 + c) (s - 1 + 1) (-1) = lv X c k := by
  have a1 : ∀ kk i, ¬ (kk = 1 ∧ i = 4 + c) → X1 kk i = X kk i := fun kk i q => by rw [h1]; exact xs_ne q
  have b1 : ∀ kk i, ¬ (kk = 2 ∧ i = 4 + c) → X2 kk i = X1 kk i := fun kk i q => by
    rcases h2 with ⟨e, -⟩ | e
    · rw [e]
    · rw [e]; exact xw_ne q
  have b2 : ∀ j : Nat, X2 2 (4 + c) j = if k + 1 ≤ j ∧ j < s then X 2 (4 + c) (j + 1) else X 2 (4 + c) j := fun j => by
    rcases h2 with ⟨e, q⟩ | e
    · rw [e, a1 2 (4 + c) (by omega), if_neg (by omega)]
    · rw [e, xw_at, a1 2 (4 + c) (by omega)]
  funext kk i j
  by_cases c1 : kk = 1 ∧ i = 4 + c
  · obtain ⟨rfl, rfl⟩ := c1
    rw [xs_ne (by omega), xs_at, lv_1, hs, b1 1 (4 + c) (by omega), h1, xs_at]
    by_cases e0 : j = 0
    · subst e0; rfl
    · rw [if_neg e0]
      by_cases e2 : j = 2
      · rw [if_pos e2, if_neg e0]
      · rw [if_neg e2, if_neg e0]
  · by_cases c2 : kk = 2 ∧ i = 4 + c
    · obtain ⟨rfl, rfl⟩ := c2
      rw [xs_at, lv_2, xs_ne (by omega), b2, hs, show s - 1 + 1 = s by omega]
      rfl
    · rw [xs_ne c2, xs_ne c1, b1 kk i c2, a1 kk i c1]
      unfold lv
      rw [if_neg c1, if_neg c2]

theorem fls_Jx4a65c_63_2 : FLS RJx4a65c 63 2 0 := ⟨(RJx4a65c, TJx4a65c, 3), "java/util/ArrayList", rfl, by decide, uw_2, List.mem_of_getElem? (i := 98) (by decide +kernel), List.mem_of_getElem? (i := 99) (by decide +kernel)⟩
set_option maxRecDepth 100000 in
set_option maxHeartbeats 4000000 in
theorem c_Jx4a65c_fastRemove_b59b0 {g : Gt} {α : AL} {ν : Nat → Nat → Bool} {X : XM} {h : AH} (hT : TR g α ν X h) (hW : WX ν X) {c : Nat} (hc : (c : Int) < nC X) {k : Nat} (hk : (k : Int) < X 1 (4 + c) 2) : Mu g α ν M_Jx4a65c_fastRemove_b59b0 5 [.ref (α 1 (4 + c)), .ref (α 2 (4 + c)), .int (J (k : Int))] h (none) (fun X' => X' = lv X c k) := by
  refine mu_of rfl rfl (ls := [some (.ref (α 1 (4 + c))), some (.ref (α 2 (4 + c))), some (.int (J (k : Int))), none]) rfl (Nat.le_of_ble_eq_true rfl) ?_
  show Ev g M_Jx4a65c_fastRemove_b59b0 5 0 [some (.ref (α 1 (4 + c))), some (.ref (α 2 (4 + c))), some (.int (J (k : Int))), none] [] h 0 0 (UQ g α ν (none) (fun X' => X' = lv X c k))
  have q1 := wo_nC hW.1
  have q3 := wo_nS hW.1
  have hL := lw_w hT hW hc
  have he : X 1 (4 + c) 1 ≠ 0 := fun e => by have := hL.2.2.1 e; omega
  have hz := hL.2.1 he
  have hy := hL.2.2.2.2
  have hn := wo_wN hW.1 c hc
  have hel : ∀ j : Nat, (j : Int) < X 1 (4 + c) 2 → 0 ≤ X 2 (4 + c) (j + 1) ∧ X 2 (4 + c) (j + 1) < 16 ∧ ν 4 (X 2 (4 + c) (j + 1)).toNat = true := fun j hj => by have := wo_wA hW.1 c j hc hj; exact ⟨this.1, by omega, wx_stu hW (by omega)⟩
  obtain ⟨s, hs⟩ : ∃ s : Nat, X 1 (4 + c) 2 = (s : Int) := ⟨(X 1 (4 + c) 2).toNat, by omega⟩
  refine ev_ald0 1 dJx4a65c_fastRemove_b59b0_0 rfl ?_
  refine ev_dup 2 dJx4a65c_fastRemove_b59b0_1 rfl rfl ?_
  refine ev_getfieldS 5 2 0 fls_Jx4a65c_63_2 (lw_cellE hT hL he) rfl dJx4a65c_fastRemove_b59b0_2 rfl ?_
  refine tj_iconst 6 dJx4a65c_fastRemove_b59b0_5 rfl ?_
  refine tj_iadd 7 dJx4a65c_fastRemove_b59b0_6 rfl ?_
  rw [J_wr (X 1 (4 + c) 0 + 1)]
  refine tv_putiS 10 0 .int fls_Jx4a65c_63_2 fp_2_0 hT (hL.1) (fun _ => rfl) rfl (Nat.le_of_ble_eq_true rfl) rfl rfl (by first | exact TR.rng hT _ _ _ | exact R31_of _ | exact bi_R _ | (constructor <;> omega)) dJx4a65c_fastRemove_b59b0_7 rfl (fun h hT => ?_)
  obtain ⟨X1, hX1⟩ : ∃ Z, Z = xs X 1 (4 + c) 0 (wr (X 1 (4 + c) 0 + 1)) := ⟨_, rfl⟩
  rw [← hX1] at hT
  have f1 : X1 1 (4 + c) 1 = X 1 (4 + c) 1 := by rw [hX1, xs_at]; rfl
  have f2 : X1 1 (4 + c) 2 = X 1 (4 + c) 2 := by rw [hX1, xs_at]; rfl
  have f3 : X1 2 = X 2 := by rw [hX1]; exact xs_nk (by decide)
  have f4 : X1 2 (4 + c) 0 = X 2 (4 + c) 0 := by rw [f3]
  have hL := lw_cg hL f1 f2 f4
  have he : X1 1 (4 + c) 1 ≠ 0 := by rw [f1]; exact he
  rw [← f3] at hel
  refine ev_ald0 11 dJx4a65c_fastRemove_b59b0_10 rfl ?_
  refine ev_getfield 14 2 2 fl_Jx4a65c_48_2 (lw_cellE hT hL he) rfl dJx4a65c_fastRemove_b59b0_11 rfl ?_
  refine tj_iconst 15 dJx4a65c_fastRemove_b59b0_14 rfl ?_
  refine tj_isub 16 dJx4a65c_fastRemove_b59b0_15 rfl ?_
  refine ev_dup 17 dJx4a65c_fastRemove_b59b0_16 rfl rfl ?_
  refine ev_ist3 18 dJx4a65c_fastRemove_b59b0_17 rfl (by decide) rfl ?_
  refine ev_ild2 19 dJx4a65c_fastRemove_b59b0_18 rfl ?_
  refine tj_icmp_le 34 22 dJx4a65c_fastRemove_b59b0_19 (by decide) rfl (by first | exact TR.rng hT _ _ _ | exact R31_of _ | exact bi_R _ | (constructor <;> omega)) (by first | exact TR.rng hT _ _ _ | exact R31_of _ | exact bi_R _ | (constructor <;> omega)) (fun c19 => ?_) (fun c19 => ?_)
  · skip
    obtain ⟨X2, hX2⟩ : ∃ Z, Z = X1 := ⟨_, rfl⟩
    rw [← hX2] at hT
    have g0 : X2 1 = X1 1 := by rw [hX2]
    have g1 : X2 2 (4 + c) 0 = X1 2 (4 + c) 0 := by rw [hX2]
    have hL := lw_cg hL (by rw [g0]) (by rw [g0]) g1
    have he : X2 1 (4 + c) 1 ≠ 0 := by rw [g0]; exact he
    refine ev_ald1 35 dJx4a65c_fastRemove_b59b0_34 rfl ?_
    refine ev_ald0 36 dJx4a65c_fastRemove_b59b0_35 rfl ?_
    refine ev_ild3 37 dJx4a65c_fastRemove_b59b0_36 rfl ?_
    refine ev_dup_x1 38 dJx4a65c_fastRemove_b59b0_37 rfl rfl rfl ?_
    refine tv_puti 41 2 .int fl_Jx4a65c_48_2 fp_2_2 hT (hL.1) (fun _ => rfl) rfl (Nat.le_of_ble_eq_true rfl) rfl rfl (by first | exact TR.rng hT _ _ _ | exact R31_of _ | exact bi_R _ | (constructor <;> omega)) dJx4a65c_fastRemove_b59b0_38 rfl (fun h hT => ?_)
    have w1 := xs_ne (X := X2) (k := 1) (i := 4 + c) (j := 2) (v := X1 1 (4 + c) 2 - 1) (k' := 2) (i' := 4 + c) (by omega)
    rw [f2, hs] at hT
    rw [f2, hs] at w1
    have w2 : xs X2 1 (4 + c) 2 ((s : Int) - 1) 2 (4 + c) 0 = X 2 (4 + c) 0 := by rw [w1, g1, f4]
    refine ev_null 42 dJx4a65c_fastRemove_b59b0_41 rfl ?_
    refine tv_aastN 43 hT (tv2 hT hz.1) (s - 1) (by omega) (by omega) (by omega) dJx4a65c_fastRemove_b59b0_42 rfl (fun h hT => ?_)
    exact ev_vreturn (uq_v hT (by first | exact lv_mk hX1 hs (by omega) (Or.inl ⟨hX2, by omega⟩) | exact lv_mk hX1 hs (by omega) (Or.inr hX2))) rfl dJx4a65c_fastRemove_b59b0_43
  · skip
    refine ev_ald1 23 dJx4a65c_fastRemove_b59b0_22 rfl ?_
    refine ev_ild2 24 dJx4a65c_fastRemove_b59b0_23 rfl ?_
    refine tj_iconst 25 dJx4a65c_fastRemove_b59b0_24 rfl ?_
    refine tj_iadd 26 dJx4a65c_fastRemove_b59b0_25 rfl ?_
    refine ev_ald1 27 dJx4a65c_fastRemove_b59b0_26 rfl ?_
    refine ev_ild2 28 dJx4a65c_fastRemove_b59b0_27 rfl ?_
    refine ev_ild3 29 dJx4a65c_fastRemove_b59b0_28 rfl ?_
    refine ev_ild2 30 dJx4a65c_fastRemove_b59b0_29 rfl ?_
    refine tj_isub 31 dJx4a65c_fastRemove_b59b0_30 rfl ?_
    refine tv_copyW 34 k s hT (tv2 hT hz.1) (by omega) rfl (by omega) (by omega) (by omega) (by omega) (fun j hj => hel j (by omega)) dJx4a65c_fastRemove_b59b0_31 acl_Jx4a65c_112 (by decide) (Nat.le_of_ble_eq_true rfl) rfl (fun h hT => ?_)
    obtain ⟨X2, hX2⟩ : ∃ Z, Z = xw X1 2 (4 + c) (fun j => if k + 1 ≤ j ∧ j < s then X1 2 (4 + c) (j + 1) else X1 2 (4 + c) j) := ⟨_, rfl⟩
    rw [← hX2] at hT
    have g0 : X2 1 = X1 1 := by rw [hX2]; funext i; exact xw_ne (by omega)
    have g1 : X2 2 (4 + c) 0 = X1 2 (4 + c) 0 := by rw [hX2, xw_at]; show (if k + 1 ≤ 0 ∧ 0 < s then _ else _) = _; rw [if_neg (by omega)]
    have hL := lw_cg hL (by rw [g0]) (by rw [g0]) g1
    have he : X2 1 (4 + c) 1 ≠ 0 := by rw [g0]; exact he
    refine ev_ald1 35 dJx4a65c_fastRemove_b59b0_34 rfl ?_
    refine ev_ald0 36 dJx4a65c_fastRemove_b59b0_35 rfl ?_
    refine ev_ild3 37 dJx4a65c_fastRemove_b59b0_36 rfl ?_
    refine ev_dup_x1 38 dJx4a65c_fastRemove_b59b0_37 rfl rfl rfl ?_
    refine tv_puti 41 2 .int fl_Jx4a65c_48_2 fp_2_2 hT (hL.1) (fun _ => rfl) rfl (Nat.le_of_ble_eq_true rfl) rfl rfl (by first | exact TR.rng hT _ _ _ | exact R31_of _ | exact bi_R _ | (constructor <;> omega)) dJx4a65c_fastRemove_b59b0_38 rfl (fun h hT => ?_)
    have w1 := xs_ne (X := X2) (k := 1) (i := 4 + c) (j := 2) (v := X1 1 (4 + c) 2 - 1) (k' := 2) (i' := 4 + c) (by omega)
    rw [f2, hs] at hT
    rw [f2, hs] at w1
    have w2 : xs X2 1 (4 + c) 2 ((s : Int) - 1) 2 (4 + c) 0 = X 2 (4 + c) 0 := by rw [w1, g1, f4]
    refine ev_null 42 dJx4a65c_fastRemove_b59b0_41 rfl ?_
    refine tv_aastN 43 hT (tv2 hT hz.1) (s - 1) (by omega) (by omega) (by omega) dJx4a65c_fastRemove_b59b0_42 rfl (fun h hT => ?_)
    exact ev_vreturn (uq_v hT (by first | exact lv_mk hX1 hs (by omega) (Or.inl ⟨hX2, by omega⟩) | exact lv_mk hX1 hs (by omega) (Or.inr hX2))) rfl dJx4a65c_fastRemove_b59b0_43
set_option maxRecDepth 100000 in
set_option maxHeartbeats 4000000 in
theorem c_Jx4a65c_remove_915e3 {g : Gt} {α : AL} {ν : Nat → Nat → Bool} {X : XM} {h : AH} (hT : TR g α ν X h) (hW : WX ν X) {c : Nat} (hc : (c : Int) < nC X) {k : Nat} (hk : (k : Int) < X 1 (4 + c) 2) : Mu g α ν M_Jx4a65c_remove_915e3 6 [.ref (α 1 (4 + c)), .int (J (k : Int))] h (some (.ref (α 4 (X 2 (4 + c) (k + 1)).toNat))) (fun X' => X' = lv X c k) := by
  refine mu_of rfl rfl (ls := [some (.ref (α 1 (4 + c))), some (.int (J (k : Int))), none, none]) rfl (Nat.le_of_ble_eq_true rfl) ?_
  show Ev g M_Jx4a65c_remove_915e3 6 0 [some (.ref (α 1 (4 + c))), some (.int (J (k : Int))), none, none] [] h 0 0 (UQ g α ν (some (.ref (α 4 (X 2 (4 + c) (k + 1)).toNat))) (fun X' => X' = lv X c k))
  have q1 := wo_nC hW.1
  have q3 := wo_nS hW.1
  have hL := lw_w hT hW hc
  have he : X 1 (4 + c) 1 ≠ 0 := fun e => by have := hL.2.2.1 e; omega
  have hz := hL.2.1 he
  have hy := hL.2.2.2.2
  have hn := wo_wN hW.1 c hc
  have hel : ∀ j : Nat, (j : Int) < X 1 (4 + c) 2 → 0 ≤ X 2 (4 + c) (j + 1) ∧ X 2 (4 + c) (j + 1) < 16 ∧ ν 4 (X 2 (4 + c) (j + 1)).toNat = true := fun j hj => by have := wo_wA hW.1 c j hc hj; exact ⟨this.1, by omega, wx_stu hW (by omega)⟩
  refine ev_ild1 1 dJx4a65c_remove_915e3_0 rfl ?_
  refine ev_ald0 2 dJx4a65c_remove_915e3_1 rfl ?_
  refine ev_getfield 5 2 2 fl_Jx4a65c_48_2 (lw_cellE hT hL he) rfl dJx4a65c_remove_915e3_2 rfl ?_
  refine tc_S2 8 dJx4a65c_remove_915e3_5 lks_Jx4a65c_118 rfl (by first | decide | omega) (Nat.le_of_ble_eq_true rfl) (c_J15_checkIndex_7cf53 (by omega) (by omega)) ?_
  refine ev_pop 9 dJx4a65c_remove_915e3_8 rfl rfl ?_
  refine ev_ald0 10 dJx4a65c_remove_915e3_9 rfl ?_
  refine ev_getfield 13 2 1 fl_Jx4a65c_9_2 (lw_cellE hT hL he) rfl dJx4a65c_remove_915e3_10 rfl ?_
  refine ev_ast2 14 dJx4a65c_remove_915e3_13 rfl (by decide) rfl ?_
  refine ev_ald2 15 dJx4a65c_remove_915e3_14 rfl ?_
  refine ev_ild1 16 dJx4a65c_remove_915e3_15 rfl ?_
  refine tv_aald 17 (lw_arr hT hL he) (k) (by omega) (by omega) (by omega) (by rw [ek_w]; exact el_of (show X 2 (4 + c) (k + 1) = ((X 2 (4 + c) (k + 1)).toNat : Int) by have := (hel k (by omega)).1; omega)) dJx4a65c_remove_915e3_16 rfl ?_
  refine ev_ast3 18 dJx4a65c_remove_915e3_17 rfl (by decide) rfl ?_
  refine ev_ald0 19 dJx4a65c_remove_915e3_18 rfl ?_
  refine ev_ald2 20 dJx4a65c_remove_915e3_19 rfl ?_
  refine ev_ild1 21 dJx4a65c_remove_915e3_20 rfl ?_
  refine tmv_V2 24 2 dJx4a65c_remove_915e3_21 lkv_Jx4a65c_144 (lw_cellE hT hL he) rfl rfl (by first | decide | omega) (Nat.le_of_ble_eq_true rfl) (c_Jx4a65c_fastRemove_b59b0 hT hW hc hk) (fun h X1 hT hP21 => ?_)
  refine ev_ald3 25 dJx4a65c_remove_915e3_24 rfl ?_
  exact ev_areturn ⟨rfl, _, hT, (by exact hP21)⟩ rfl dJx4a65c_remove_915e3_25
theorem lw_cell0 {g : Gt} {α : AL} {ν : Nat → Nat → Bool} {X : XM} {h : AH} (hT : TR g α ν X h) {i : Nat} (hL : LW ν X i) (he : X 1 i 1 = 0) : h (α 1 i) = some (.inr (2, [.int (J (X 1 i 0)), .ref (gE g), .int (J (X 1 i 2))])) := by
  rw [lw_cell hT hL, ck1, if_pos he]
