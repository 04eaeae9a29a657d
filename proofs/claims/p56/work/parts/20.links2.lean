theorem cl_X11_29 : Cond.classLink RX11 29 "Prereqs$Student" ∈ lw_tbl := List.mem_of_getElem? (i := 107) (by decide +kernel)
theorem cl_X8_28 : Cond.classLink RX8 28 "[[I" ∈ lw_tbl := List.mem_of_getElem? (i := 113) (by decide +kernel)
theorem cl_X11_79 : Cond.classLink RX11 79 "Prereqs$Course" ∈ lw_tbl := List.mem_of_getElem? (i := 262) (by decide +kernel)
theorem cl_X11_149 : Cond.classLink RX11 149 "Prereqs$Formula" ∈ lw_tbl := List.mem_of_getElem? (i := 310) (by decide +kernel)
theorem cl_J7_110 : Cond.classLink RJ7 110 "[Ljava/lang/Object;" ∈ lw_tbl := List.mem_of_getElem? (i := 648) (by decide +kernel)
theorem cl_J7_2 : Cond.classLink RJ7 2 "java/lang/Object" ∈ lw_tbl := List.mem_of_getElem? (i := 650) (by decide +kernel)
theorem cl_Jx4a65c_7 : Cond.classLink RJx4a65c 7 "java/lang/Object" ∈ lw_tbl := List.mem_of_getElem? (i := 656) (by decide +kernel)
theorem lkn_X11_40 : LKn RX11 40 M_X0_init 0 "Prereqs" := ⟨rfl, List.mem_of_getElem? (i := 155) (by decide +kernel), List.mem_of_getElem? (i := 157) (by decide +kernel), List.mem_of_getElem? (i := 47) (by decide +kernel), by decide, by decide +kernel, by decide +kernel, by decide +kernel⟩
theorem im_X0_init : Cond.instanceMethod yX0_init ∈ lw_tbl := List.mem_of_getElem? (i := 156) (by decide +kernel)
theorem lkn_X11_47 : LKn RX11 47 M_X10_init 0 "Prereqs" := ⟨rfl, List.mem_of_getElem? (i := 192) (by decide +kernel), List.mem_of_getElem? (i := 194) (by decide +kernel), List.mem_of_getElem? (i := 48) (by decide +kernel), by decide, by decide +kernel, by decide +kernel, by decide +kernel⟩
theorem im_X10_init : Cond.instanceMethod yX10_init ∈ lw_tbl := List.mem_of_getElem? (i := 193) (by decide +kernel)
theorem lkn_X1_24 : LKn RX1 24 M_X11_isMet 2 "Prereqs" := ⟨rfl, List.mem_of_getElem? (i := 317) (by decide +kernel), List.mem_of_getElem? (i := 319) (by decide +kernel), List.mem_of_getElem? (i := 41) (by decide +kernel), by decide, by decide +kernel, by decide +kernel, by decide +kernel⟩
theorem st_X11_isMet : Cond.static yX11_isMet ∈ lw_tbl := List.mem_of_getElem? (i := 318) (by decide +kernel)
theorem lkn_X6_13 : LKn RX6 13 M_X11_isMet 2 "Prereqs" := ⟨rfl, List.mem_of_getElem? (i := 329) (by decide +kernel), List.mem_of_getElem? (i := 319) (by decide +kernel), List.mem_of_getElem? (i := 41) (by decide +kernel), by decide, by decide +kernel, by decide +kernel, by decide +kernel⟩
theorem lku_isTrue_X5 : LKu RX11 "Prereqs$MarkFormula" 410 ⟨"Prereqs$Formula", "isTrue", "(LPrereqs$Student;IJ)Z"⟩ M_X5_isTrue 3 := ⟨rfl, List.mem_of_getElem? (i := 311) (by decide +kernel), List.mem_of_getElem? (i := 325) (by decide +kernel), List.mem_of_getElem? (i := 63) (by decide +kernel), by decide, ⟨by decide +kernel, by decide +kernel, by decide +kernel⟩, List.mem_of_getElem? (i := 313) (by decide +kernel), List.mem_of_getElem? (i := 323) (by decide +kernel), List.mem_of_getElem? (i := 324) (by decide +kernel)⟩
theorem lku_isTrue_X9 : LKu RX11 "Prereqs$TogetherFormula" 410 ⟨"Prereqs$Formula", "isTrue", "(LPrereqs$Student;IJ)Z"⟩ M_X9_isTrue 3 := ⟨rfl, List.mem_of_getElem? (i := 311) (by decide +kernel), List.mem_of_getElem? (i := 332) (by decide +kernel), List.mem_of_getElem? (i := 64) (by decide +kernel), by decide, ⟨by decide +kernel, by decide +kernel, by decide +kernel⟩, List.mem_of_getElem? (i := 313) (by decide +kernel), List.mem_of_getElem? (i := 330) (by decide +kernel), List.mem_of_getElem? (i := 331) (by decide +kernel)⟩
theorem lku_isTrue_X3 : LKu RX11 "Prereqs$CreditsFormula" 410 ⟨"Prereqs$Formula", "isTrue", "(LPrereqs$Student;IJ)Z"⟩ M_X3_isTrue 3 := ⟨rfl, List.mem_of_getElem? (i := 311) (by decide +kernel), List.mem_of_getElem? (i := 322) (by decide +kernel), List.mem_of_getElem? (i := 65) (by decide +kernel), by decide, ⟨by decide +kernel, by decide +kernel, by decide +kernel⟩, List.mem_of_getElem? (i := 313) (by decide +kernel), List.mem_of_getElem? (i := 320) (by decide +kernel), List.mem_of_getElem? (i := 321) (by decide +kernel)⟩
theorem lku_isTrue_X1 : LKu RX11 "Prereqs$CountFormula" 410 ⟨"Prereqs$Formula", "isTrue", "(LPrereqs$Student;IJ)Z"⟩ M_X1_isTrue 3 := ⟨rfl, List.mem_of_getElem? (i := 311) (by decide +kernel), List.mem_of_getElem? (i := 316) (by decide +kernel), List.mem_of_getElem? (i := 67) (by decide +kernel), by decide, ⟨by decide +kernel, by decide +kernel, by decide +kernel⟩, List.mem_of_getElem? (i := 313) (by decide +kernel), List.mem_of_getElem? (i := 314) (by decide +kernel), List.mem_of_getElem? (i := 315) (by decide +kernel)⟩
theorem lku_isTrue_X6 : LKu RX11 "Prereqs$NoneFormula" 410 ⟨"Prereqs$Formula", "isTrue", "(LPrereqs$Student;IJ)Z"⟩ M_X6_isTrue 3 := ⟨rfl, List.mem_of_getElem? (i := 311) (by decide +kernel), List.mem_of_getElem? (i := 328) (by decide +kernel), List.mem_of_getElem? (i := 68) (by decide +kernel), by decide, ⟨by decide +kernel, by decide +kernel, by decide +kernel⟩, List.mem_of_getElem? (i := 313) (by decide +kernel), List.mem_of_getElem? (i := 326) (by decide +kernel), List.mem_of_getElem? (i := 327) (by decide +kernel)⟩
theorem dcl_isTrue {g : Gt} (s : State) (hC : CTX g s) : va_Decl s ⟨"Prereqs$Formula", "isTrue", "(LPrereqs$Student;IJ)Z"⟩ := va_Decl.abs (hC.1.2.1 _ (List.mem_of_getElem? (i := 312) (by decide +kernel) : Cond.declares ⟨"Prereqs$Formula", "isTrue", "(LPrereqs$Student;IJ)Z"⟩ ∈ lw_tbl) rfl)
theorem mmax_X11_153 : Cond.methodLink RX11 153 Lib.Math.max.name ∈ lw_tbl := List.mem_of_getElem? (i := 283) (by decide +kernel)
theorem mmax_X0_131 : Cond.methodLink RX0 131 Lib.Math.max.name ∈ lw_tbl := List.mem_of_getElem? (i := 378) (by decide +kernel)
theorem mmax_J8_194 : Cond.methodLink RJ8 194 Lib.Math.max.name ∈ lw_tbl := List.mem_of_getElem? (i := 614) (by decide +kernel)
theorem mmax_Jx4a65c_79 : Cond.methodLink RJx4a65c 79 Lib.Math.max.name ∈ lw_tbl := List.mem_of_getElem? (i := 655) (by decide +kernel)
theorem mmax_X8_43 : Cond.methodLink RX8 43 Lib.Math.max.name ∈ lw_tbl := List.mem_of_getElem? (i := 1048) (by decide +kernel)
theorem mmax_w : Cond.static Lib.Math.max.name ∈ lw_tbl ∧ Cond.initialized "java/lang/Math" ∈ lw_tbl ∧ Cond.code Lib.Math.max.name Lib.Math.max.code 2 (some .int) ∈ lw_tbl := ⟨List.mem_of_getElem? (i := 284) (by decide +kernel), List.mem_of_getElem? (i := 57) (by decide +kernel), List.mem_of_getElem? (i := 285) (by decide +kernel)⟩
theorem mmin_J7_304 : Cond.methodLink RJ7 304 Lib.Math.min.name ∈ lw_tbl := List.mem_of_getElem? (i := 651) (by decide +kernel)
theorem mmin_w : Cond.static Lib.Math.min.name ∈ lw_tbl ∧ Cond.initialized "java/lang/Math" ∈ lw_tbl ∧ Cond.code Lib.Math.min.name Lib.Math.min.code 2 (some .int) ∈ lw_tbl := ⟨List.mem_of_getElem? (i := 652) (by decide +kernel), List.mem_of_getElem? (i := 57) (by decide +kernel), List.mem_of_getElem? (i := 653) (by decide +kernel)⟩
section RU3
variable {g : Gt} {α : AL} {ν : Nat → Nat → Bool} {X : XM} {M M2 : Mt} {d d1 pc : Nat} {ls : List (Option Value)} {st : List Value} {h : AH} {mc ms : Nat} {Q : RT → AH → Prop}
theorem tv_aald {a len q : Nat} {F : Nat → Option Nat} {z : Int} (n : Nat) (ha : h a = some (.inl (3, len, .inr (.inr (.inr (.inr F)))))) (j : Nat) (hz : z = (j : Int)) (hj : j < len) (hl : len < 2147483648) (hq : F j = some q) (hd : decode (mC M) pc = .ok (.aaload, 1)) (hn : pc + 1 = n) (kk : Ev g M d n ls (.ref q :: st) h mc ms Q) : Ev g M d pc ls (.int (J z) :: .ref a :: st) h mc ms Q := by
  subst hz
  refine ev_aaloadO n hd ha (J_in hj hl) hn ?_
  rw [J_clampN (by omega), hq]
  exact kk
theorem tv_aald4 {a len q : Nat} {F : Nat → Option Nat} {z : Int} (n : Nat) (ha : h a = some (.inl (4, len, .inr (.inr (.inr (.inr F)))))) (j : Nat) (hz : z = (j : Int)) (hj : j < len) (hl : len < 2147483648) (hq : F j = some q) (hd : decode (mC M) pc = .ok (.aaload, 1)) (hn : pc + 1 = n) (kk : Ev g M d n ls (.ref q :: st) h mc ms Q) : Ev g M d pc ls (.int (J z) :: .ref a :: st) h mc ms Q := by
  subst hz
  refine ev_aaloadR n hd ha (J_in hj hl) hn ?_
  rw [J_clampN (by omega), hq]
  exact kk
theorem el_of {α : AL} {e : Nat} {v : Int} {j : Nat} (hv : v = (j : Int)) : el α e v = some (α e j) := by
  subst hv
  unfold el
  rw [if_neg (by omega)]
  rfl
/-- what a list of the memory needs to be read -/
def LW (ν : Nat → Nat → Bool) (X : XM) (i : Nat) : Prop := vk ν 1 i = true ∧ (X 1 i 1 ≠ 0 → ν 2 i = true ∧ X 1 i 2 ≤ X 2 i 0) ∧ (X 1 i 1 = 0 → X 1 i 2 = 0) ∧ 0 ≤ X 1 i 2 ∧ X 2 i 0 ≤ 1000
theorem lw_i (hT : TR g α ν X h) (hW : WX ν X) {i : Nat} (hi : i < 4) : LW ν X i := by
  have e : 0 ≤ X 1 i 2 := by
    rcases (show i = 0 ∨ i = 1 ∨ i = 2 ∨ i = 3 by omega) with rfl | rfl | rfl | rfl
    · exact (wo_nC hW.1).1
    · exact (wo_nS hW.1).1
    · exact (wo_nF hW.1).1
    · exact (wo_nR hW.1).1
  refine ⟨?_, wv_lst hW.2 i hi, wv_ls0 hW.2 i hi, e, wv_cap hW.2 i⟩
  rcases (show i = 0 ∨ i = 1 ∨ i = 2 ∨ i = 3 by omega) with rfl | rfl | rfl | rfl
  · exact tv1_0 hT
  · exact tv1_1 hT
  · exact tv1_2 hT
  · exact tv1_3 hT
theorem lw_w (hT : TR g α ν X h) (hW : WX ν X) {c : Nat} (hc : (c : Int) < nC X) : LW ν X (4 + c) :=
  ⟨tv1_W hT (wx_crs hW hc), wv_wst hW.2 c hc, wv_ws0 hW.2 c hc, (wo_wN hW.1 c hc).1, wv_cap hW.2 _⟩
theorem lw_cell (hT : TR g α ν X h) {i : Nat} (hL : LW ν X i) : h (α 1 i) = some (ck1 g α i (X 1 i)) := (hT.1 1 i hL.1).1
theorem lw_cellE (hT : TR g α ν X h) {i : Nat} (hL : LW ν X i) (he : X 1 i 1 ≠ 0) : h (α 1 i) = some (.inr (2, [.int (J (X 1 i 0)), .ref (α 2 i), .int (J (X 1 i 2))])) := by
  rw [lw_cell hT hL, ck1, if_neg he]
theorem lw_arr (hT : TR g α ν X h) {i : Nat} (hL : LW ν X i) (he : X 1 i 1 ≠ 0) : h (α 2 i) = some (ck2 g α i (X 2 i)) := tr2 hT (hL.2.1 he).1
theorem pr_cn {av : List Value} {v : Option Value} (c : Pr g M d av h v) : Cn g M d av h 0 0 (PQ v h) := cn_of_ct (fun E h' q => by cases q.1) c
theorem tc_SN2 {x0 x1 : Value} {v : Value} {host : String} {index : Nat} (n : Nat) (hd : decode (mC M) pc = .ok (.invokestatic index, 3)) (L : LKn (mY M).cls index M2 2 host) (hs : Cond.static (mY M2) ∈ lw_tbl) (hn : pc + 3 = n) (hd1 : d1 < d) (hcat : (st.map fun v => v.category).sum ≤ 8) (hc : Pr g M2 d1 [x0, x1] h (some v)) (kk : Ev g M d n ls (v :: st) h mc ms Q) : Ev g M d pc ls (x1 :: x0 :: st) h mc ms Q :=
  ev_mono (mc := 0 + mc) (ms := 0 + ms) (by omega) (by omega) (ev_callSN n L hs (pr_cn hc) hd1 rfl rfl hcat hd hn (fun v h' hq => by obtain ⟨e1, rfl⟩ := hq; cases e1; exact kk) (fun E h' hq => by cases hq.1))
theorem tc_U3 {x0 x1 x2 : Value} {v : Value} {C : String} {x : MethodName} {b ci : Nat} {fs : List Value} {index : Nat} (n : Nat) (hd : decode (mC M) pc = .ok (.invokevirtual index, 3)) (L : LKu (mY M).cls C index x M2 3) (hdecl : ∀ s : State, CTX g s → va_Decl s x) (hb : h b = some (.inr (ci, fs))) (hci : vwCl[ci]?.map (·.1) = some C) (hn : pc + 3 = n) (hd1 : d1 < d) (hcat : (st.map fun v => v.category).sum ≤ 8) (hc : Pr g M2 d1 [.ref b, x0, x1, x2] h (some v)) (kk : Ev g M d n ls (v :: st) h mc ms Q) : Ev g M d pc ls (x2 :: x1 :: x0 :: .ref b :: st) h mc ms Q :=
  ev_mono (mc := 0 + mc) (ms := 0 + ms) (by omega) (by omega) (ev_callU n L hdecl (pr_cn hc) hd1 hb hci rfl rfl hcat hd hn (fun v h' hq => by obtain ⟨e1, rfl⟩ := hq; cases e1; exact kk) (fun E h' hq => by cases hq.1))
theorem tj_mmax {index : Nat} {a b : Int} (n : Nat) (hd : decode (mC M) pc = .ok (.invokestatic index, 3)) (hl : Cond.methodLink (mY M).cls index Lib.Math.max.name ∈ lw_tbl) (hdd : 1 ≤ d) (hcat : (st.map fun v => v.category).sum + 13 ≤ 46 * d) (hn : pc + 3 = n) (ra : R31 a) (rb : R31 b) (kk : Ev g M d n ls (.int (J (if a < b then b else a)) :: st) h mc ms Q) : Ev g M d pc ls (.int (J b) :: .int (J a) :: st) h mc ms Q := by
  refine ev_mmax n hd hl mmax_w hdd hcat hn ?_
  have e : (if J a < J b then J b else J a) = J (if a < b then b else a) := by
    by_cases c : a < b
    · rw [if_pos c, if_pos ((J_lt ra rb).mpr c)]
    · rw [if_neg c, if_neg (fun z => c ((J_lt ra rb).mp z))]
  rw [e]
  exact kk
end RU3
