/-! class links, and rows of references -/
theorem cl_L_8 : Cond.classLink RL 8 "Prereqs" ∈ lw_tbl := List.mem_of_getElem? (i := 131) (by decide +kernel)
theorem cl_X11_9 : Cond.classLink RX11 9 "java/util/ArrayList" ∈ lw_tbl := List.mem_of_getElem? (i := 139) (by decide +kernel)
theorem cl_X11_29 : Cond.classLink RX11 29 "Prereqs$Student" ∈ lw_tbl := List.mem_of_getElem? (i := 165) (by decide +kernel)
theorem cl_X8_28 : Cond.classLink RX8 28 "[[I" ∈ lw_tbl := List.mem_of_getElem? (i := 171) (by decide +kernel)
theorem cl_X11_38 : Cond.classLink RX11 38 "Prereqs$Audit" ∈ lw_tbl := List.mem_of_getElem? (i := 214) (by decide +kernel)
theorem cl_X11_45 : Cond.classLink RX11 45 "Prereqs$Transcript" ∈ lw_tbl := List.mem_of_getElem? (i := 251) (by decide +kernel)
theorem cl_X11_79 : Cond.classLink RX11 79 "Prereqs$Course" ∈ lw_tbl := List.mem_of_getElem? (i := 342) (by decide +kernel)
theorem cl_X11_149 : Cond.classLink RX11 149 "Prereqs$Formula" ∈ lw_tbl := List.mem_of_getElem? (i := 386) (by decide +kernel)
theorem cl_X0_60 : Cond.classLink RX0 60 "Prereqs$Rule" ∈ lw_tbl := List.mem_of_getElem? (i := 422) (by decide +kernel)
theorem cl_L_13 : Cond.classLink RL 13 "java/lang/IllegalArgumentException" ∈ lw_tbl := List.mem_of_getElem? (i := 493) (by decide +kernel)
theorem cl_L_15 : Cond.classLink RL 15 "java/lang/IllegalStateException" ∈ lw_tbl := List.mem_of_getElem? (i := 494) (by decide +kernel)
theorem cl_X11_63 : Cond.classLink RX11 63 "java/lang/IllegalArgumentException" ∈ lw_tbl := List.mem_of_getElem? (i := 502) (by decide +kernel)
theorem cl_X11_74 : Cond.classLink RX11 74 "java/lang/IllegalStateException" ∈ lw_tbl := List.mem_of_getElem? (i := 574) (by decide +kernel)
theorem cl_X2_15 : Cond.classLink RX2 15 "java/util/ArrayList" ∈ lw_tbl := List.mem_of_getElem? (i := 595) (by decide +kernel)
theorem cl_J7_110 : Cond.classLink RJ7 110 "[Ljava/lang/Object;" ∈ lw_tbl := List.mem_of_getElem? (i := 676) (by decide +kernel)
theorem cl_J7_2 : Cond.classLink RJ7 2 "java/lang/Object" ∈ lw_tbl := List.mem_of_getElem? (i := 678) (by decide +kernel)
theorem cl_Jx4a65c_7 : Cond.classLink RJx4a65c 7 "java/lang/Object" ∈ lw_tbl := List.mem_of_getElem? (i := 684) (by decide +kernel)
theorem cl_L_24 : Cond.classLink RL 24 "java/lang/IndexOutOfBoundsException" ∈ lw_tbl := List.mem_of_getElem? (i := 700) (by decide +kernel)
theorem cl_X11_337 : Cond.classLink RX11 337 "java/lang/IndexOutOfBoundsException" ∈ lw_tbl := List.mem_of_getElem? (i := 732) (by decide +kernel)
theorem cl_X11_127 : Cond.classLink RX11 127 "Prereqs$MarkFormula" ∈ lw_tbl := List.mem_of_getElem? (i := 803) (by decide +kernel)
theorem cl_X11_136 : Cond.classLink RX11 136 "Prereqs$TogetherFormula" ∈ lw_tbl := List.mem_of_getElem? (i := 834) (by decide +kernel)
theorem cl_X11_141 : Cond.classLink RX11 141 "Prereqs$CreditsFormula" ∈ lw_tbl := List.mem_of_getElem? (i := 853) (by decide +kernel)
theorem cl_L_45 : Cond.classLink RL 45 "java/util/NoSuchElementException" ∈ lw_tbl := List.mem_of_getElem? (i := 867) (by decide +kernel)
theorem cl_X11_209 : Cond.classLink RX11 209 "java/util/NoSuchElementException" ∈ lw_tbl := List.mem_of_getElem? (i := 876) (by decide +kernel)
theorem cl_X11_159 : Cond.classLink RX11 159 "Prereqs$CountFormula" ∈ lw_tbl := List.mem_of_getElem? (i := 892) (by decide +kernel)
theorem cl_X11_164 : Cond.classLink RX11 164 "Prereqs$NoneFormula" ∈ lw_tbl := List.mem_of_getElem? (i := 933) (by decide +kernel)
theorem cl_L_74 : Cond.classLink RL 74 "java/lang/UnsupportedOperationException" ∈ lw_tbl := List.mem_of_getElem? (i := 985) (by decide +kernel)
theorem cl_L_76 : Cond.classLink RL 76 "java/lang/ArithmeticException" ∈ lw_tbl := List.mem_of_getElem? (i := 986) (by decide +kernel)
theorem cl_X11_199 : Cond.classLink RX11 199 "java/lang/UnsupportedOperationException" ∈ lw_tbl := List.mem_of_getElem? (i := 1016) (by decide +kernel)
theorem cl_X11_204 : Cond.classLink RX11 204 "java/lang/ArithmeticException" ∈ lw_tbl := List.mem_of_getElem? (i := 1032) (by decide +kernel)
theorem cl_X11_353 : Cond.classLink RX11 353 "Prereqs$Rule" ∈ lw_tbl := List.mem_of_getElem? (i := 1298) (by decide +kernel)
theorem cl_L_179 : Cond.classLink RL 179 "PrereqsModel" ∈ lw_tbl := List.mem_of_getElem? (i := 1406) (by decide +kernel)
theorem lkn_X11_40 : LKn RX11 40 M_X0_init 0 "Prereqs" := ⟨rfl, List.mem_of_getElem? (i := 216) (by decide +kernel), List.mem_of_getElem? (i := 218) (by decide +kernel), List.mem_of_getElem? (i := 104) (by decide +kernel), by decide, by decide +kernel, by decide +kernel, by decide +kernel⟩
theorem im_X0_init : Cond.instanceMethod yX0_init ∈ lw_tbl := List.mem_of_getElem? (i := 217) (by decide +kernel)
theorem lkn_X11_47 : LKn RX11 47 M_X10_init 0 "Prereqs" := ⟨rfl, List.mem_of_getElem? (i := 253) (by decide +kernel), List.mem_of_getElem? (i := 255) (by decide +kernel), List.mem_of_getElem? (i := 105) (by decide +kernel), by decide, by decide +kernel, by decide +kernel, by decide +kernel⟩
theorem im_X10_init : Cond.instanceMethod yX10_init ∈ lw_tbl := List.mem_of_getElem? (i := 254) (by decide +kernel)
theorem lkn_X1_24 : LKn RX1 24 M_X11_isMet 2 "Prereqs" := ⟨rfl, List.mem_of_getElem? (i := 393) (by decide +kernel), List.mem_of_getElem? (i := 395) (by decide +kernel), List.mem_of_getElem? (i := 98) (by decide +kernel), by decide, by decide +kernel, by decide +kernel, by decide +kernel⟩
theorem st_X11_isMet : Cond.static yX11_isMet ∈ lw_tbl := List.mem_of_getElem? (i := 394) (by decide +kernel)
theorem lkn_X6_13 : LKn RX6 13 M_X11_isMet 2 "Prereqs" := ⟨rfl, List.mem_of_getElem? (i := 405) (by decide +kernel), List.mem_of_getElem? (i := 395) (by decide +kernel), List.mem_of_getElem? (i := 98) (by decide +kernel), by decide, by decide +kernel, by decide +kernel, by decide +kernel⟩
theorem lku_isTrue_X5 : LKu RX11 "Prereqs$MarkFormula" 410 ⟨"Prereqs$Formula", "isTrue", "(LPrereqs$Student;IJ)Z"⟩ M_X5_isTrue 3 := ⟨rfl, List.mem_of_getElem? (i := 387) (by decide +kernel), List.mem_of_getElem? (i := 401) (by decide +kernel), List.mem_of_getElem? (i := 122) (by decide +kernel), by decide, ⟨by decide +kernel, by decide +kernel, by decide +kernel⟩, List.mem_of_getElem? (i := 389) (by decide +kernel), List.mem_of_getElem? (i := 399) (by decide +kernel), List.mem_of_getElem? (i := 400) (by decide +kernel)⟩
theorem lku_isTrue_X9 : LKu RX11 "Prereqs$TogetherFormula" 410 ⟨"Prereqs$Formula", "isTrue", "(LPrereqs$Student;IJ)Z"⟩ M_X9_isTrue 3 := ⟨rfl, List.mem_of_getElem? (i := 387) (by decide +kernel), List.mem_of_getElem? (i := 408) (by decide +kernel), List.mem_of_getElem? (i := 123) (by decide +kernel), by decide, ⟨by decide +kernel, by decide +kernel, by decide +kernel⟩, List.mem_of_getElem? (i := 389) (by decide +kernel), List.mem_of_getElem? (i := 406) (by decide +kernel), List.mem_of_getElem? (i := 407) (by decide +kernel)⟩
theorem lku_isTrue_X3 : LKu RX11 "Prereqs$CreditsFormula" 410 ⟨"Prereqs$Formula", "isTrue", "(LPrereqs$Student;IJ)Z"⟩ M_X3_isTrue 3 := ⟨rfl, List.mem_of_getElem? (i := 387) (by decide +kernel), List.mem_of_getElem? (i := 398) (by decide +kernel), List.mem_of_getElem? (i := 124) (by decide +kernel), by decide, ⟨by decide +kernel, by decide +kernel, by decide +kernel⟩, List.mem_of_getElem? (i := 389) (by decide +kernel), List.mem_of_getElem? (i := 396) (by decide +kernel), List.mem_of_getElem? (i := 397) (by decide +kernel)⟩
theorem lku_isTrue_X1 : LKu RX11 "Prereqs$CountFormula" 410 ⟨"Prereqs$Formula", "isTrue", "(LPrereqs$Student;IJ)Z"⟩ M_X1_isTrue 3 := ⟨rfl, List.mem_of_getElem? (i := 387) (by decide +kernel), List.mem_of_getElem? (i := 392) (by decide +kernel), List.mem_of_getElem? (i := 126) (by decide +kernel), by decide, ⟨by decide +kernel, by decide +kernel, by decide +kernel⟩, List.mem_of_getElem? (i := 389) (by decide +kernel), List.mem_of_getElem? (i := 390) (by decide +kernel), List.mem_of_getElem? (i := 391) (by decide +kernel)⟩
theorem lku_isTrue_X6 : LKu RX11 "Prereqs$NoneFormula" 410 ⟨"Prereqs$Formula", "isTrue", "(LPrereqs$Student;IJ)Z"⟩ M_X6_isTrue 3 := ⟨rfl, List.mem_of_getElem? (i := 387) (by decide +kernel), List.mem_of_getElem? (i := 404) (by decide +kernel), List.mem_of_getElem? (i := 127) (by decide +kernel), by decide, ⟨by decide +kernel, by decide +kernel, by decide +kernel⟩, List.mem_of_getElem? (i := 389) (by decide +kernel), List.mem_of_getElem? (i := 402) (by decide +kernel), List.mem_of_getElem? (i := 403) (by decide +kernel)⟩
theorem dcl_isTrue {g : Gt} (s : State) (hC : CTX g s) : va_Decl s ⟨"Prereqs$Formula", "isTrue", "(LPrereqs$Student;IJ)Z"⟩ := va_Decl.abs (hC.1.2.1 _ (List.mem_of_getElem? (i := 388) (by decide +kernel) : Cond.declares ⟨"Prereqs$Formula", "isTrue", "(LPrereqs$Student;IJ)Z"⟩ ∈ lw_tbl) rfl)
theorem lku_partToBlame_X5 : LKu RX11 "Prereqs$MarkFormula" 418 ⟨"Prereqs$Formula", "partToBlame", "(J)I"⟩ M_X4_partToBlame 1 := ⟨rfl, List.mem_of_getElem? (i := 1221) (by decide +kernel), List.mem_of_getElem? (i := 1231) (by decide +kernel), List.mem_of_getElem? (i := 121) (by decide +kernel), by decide, ⟨by decide +kernel, by decide +kernel, by decide +kernel⟩, List.mem_of_getElem? (i := 1223) (by decide +kernel), List.mem_of_getElem? (i := 1228) (by decide +kernel), List.mem_of_getElem? (i := 1222) (by decide +kernel)⟩
theorem lku_partToBlame_X9 : LKu RX11 "Prereqs$TogetherFormula" 418 ⟨"Prereqs$Formula", "partToBlame", "(J)I"⟩ M_X4_partToBlame 1 := ⟨rfl, List.mem_of_getElem? (i := 1221) (by decide +kernel), List.mem_of_getElem? (i := 1231) (by decide +kernel), List.mem_of_getElem? (i := 121) (by decide +kernel), by decide, ⟨by decide +kernel, by decide +kernel, by decide +kernel⟩, List.mem_of_getElem? (i := 1223) (by decide +kernel), List.mem_of_getElem? (i := 1230) (by decide +kernel), List.mem_of_getElem? (i := 1222) (by decide +kernel)⟩
theorem lku_partToBlame_X3 : LKu RX11 "Prereqs$CreditsFormula" 418 ⟨"Prereqs$Formula", "partToBlame", "(J)I"⟩ M_X4_partToBlame 1 := ⟨rfl, List.mem_of_getElem? (i := 1221) (by decide +kernel), List.mem_of_getElem? (i := 1231) (by decide +kernel), List.mem_of_getElem? (i := 121) (by decide +kernel), by decide, ⟨by decide +kernel, by decide +kernel, by decide +kernel⟩, List.mem_of_getElem? (i := 1223) (by decide +kernel), List.mem_of_getElem? (i := 1227) (by decide +kernel), List.mem_of_getElem? (i := 1222) (by decide +kernel)⟩
theorem lku_partToBlame_X1 : LKu RX11 "Prereqs$CountFormula" 418 ⟨"Prereqs$Formula", "partToBlame", "(J)I"⟩ M_X1_partToBlame 1 := ⟨rfl, List.mem_of_getElem? (i := 1221) (by decide +kernel), List.mem_of_getElem? (i := 1226) (by decide +kernel), List.mem_of_getElem? (i := 126) (by decide +kernel), by decide, ⟨by decide +kernel, by decide +kernel, by decide +kernel⟩, List.mem_of_getElem? (i := 1223) (by decide +kernel), List.mem_of_getElem? (i := 1224) (by decide +kernel), List.mem_of_getElem? (i := 1225) (by decide +kernel)⟩
theorem lku_partToBlame_X6 : LKu RX11 "Prereqs$NoneFormula" 418 ⟨"Prereqs$Formula", "partToBlame", "(J)I"⟩ M_X4_partToBlame 1 := ⟨rfl, List.mem_of_getElem? (i := 1221) (by decide +kernel), List.mem_of_getElem? (i := 1231) (by decide +kernel), List.mem_of_getElem? (i := 121) (by decide +kernel), by decide, ⟨by decide +kernel, by decide +kernel, by decide +kernel⟩, List.mem_of_getElem? (i := 1223) (by decide +kernel), List.mem_of_getElem? (i := 1229) (by decide +kernel), List.mem_of_getElem? (i := 1222) (by decide +kernel)⟩
theorem dcl_partToBlame {g : Gt} (s : State) (hC : CTX g s) : va_Decl s ⟨"Prereqs$Formula", "partToBlame", "(J)I"⟩ := va_Decl.of (args := #[]) (b := cX4_partToBlame) (m := 3) (ret := (Option.some Jvm.ClassFile.FieldType.int)) (AW.at hC (List.mem_of_getElem? (i := 1222) (by decide +kernel) : Cond.instanceMethod ⟨"Prereqs$Formula", "partToBlame", "(J)I"⟩ ∈ lw_tbl) rfl) (AW.at hC (List.mem_of_getElem? (i := 1231) (by decide +kernel)) rfl)
theorem mmax_X11_153 : Cond.methodLink RX11 153 Lib.Math.max.name ∈ lw_tbl := List.mem_of_getElem? (i := 367) (by decide +kernel)
theorem mmax_X0_131 : Cond.methodLink RX0 131 Lib.Math.max.name ∈ lw_tbl := List.mem_of_getElem? (i := 454) (by decide +kernel)
theorem mmax_J8_194 : Cond.methodLink RJ8 194 Lib.Math.max.name ∈ lw_tbl := List.mem_of_getElem? (i := 641) (by decide +kernel)
theorem mmax_Jx4a65c_79 : Cond.methodLink RJx4a65c 79 Lib.Math.max.name ∈ lw_tbl := List.mem_of_getElem? (i := 683) (by decide +kernel)
theorem mmax_X8_43 : Cond.methodLink RX8 43 Lib.Math.max.name ∈ lw_tbl := List.mem_of_getElem? (i := 1064) (by decide +kernel)
theorem mmax_w : Cond.static Lib.Math.max.name ∈ lw_tbl ∧ Cond.initialized "java/lang/Math" ∈ lw_tbl ∧ Cond.code Lib.Math.max.name Lib.Math.max.code 2 (some .int) ∈ lw_tbl := ⟨List.mem_of_getElem? (i := 368) (by decide +kernel), List.mem_of_getElem? (i := 114) (by decide +kernel), List.mem_of_getElem? (i := 369) (by decide +kernel)⟩
theorem mmin_J7_304 : Cond.methodLink RJ7 304 Lib.Math.min.name ∈ lw_tbl := List.mem_of_getElem? (i := 679) (by decide +kernel)
theorem mmin_w : Cond.static Lib.Math.min.name ∈ lw_tbl ∧ Cond.initialized "java/lang/Math" ∈ lw_tbl ∧ Cond.code Lib.Math.min.name Lib.Math.min.code 2 (some .int) ∈ lw_tbl := ⟨List.mem_of_getElem? (i := 680) (by decide +kernel), List.mem_of_getElem? (i := 114) (by decide +kernel), List.mem_of_getElem? (i := 681) (by decide +kernel)⟩
section RU3
variable {g : Gt} {α : AL} {ν : Nat → Nat → Bool} {X : XM} {M M2 : Mt} {d d1 pc : Nat} {ls : List (Option Value)} {st : List Value} {h : AH} {mc ms : Nat} {Q : RT → AH → Prop}
theorem tv_aald {a len q : Nat} {F : Nat → Option Nat} {z : Int} (n : Nat) (ha : h a = some (.inl (3, len, .inr (.inr (.inr (.inr F)))))) (j : Nat) (hz : z = (j : Int)) (hj : j < len) (hl : len < 2147483648) (hq : F j = some q) (hd : decode (mC M) pc = .ok (.aaload, 1)) (hn : pc + 1 = n) (kk : Ev g M d n ls (.ref q :: st) h mc ms Q) : Ev g M d pc ls (.int (J z) :: .ref a :: st) h mc ms Q := by
  subst hz
  refine ev_aaloadO n hd ha (J_in hj hl) hn ?_
  rw [J_clampN (by omega), hq]
  exact kk
theorem tv_aald4 {a len q : Nat} {F : Nat → Option Nat} {z : Int} (n : Nat) (ha : h a = some (.inl (4, len, .inr (.inr (.inr (.inr F)))))) (j : Nat) (hz : z = (j : Int)) (hj : j < len) (hl : len < 2147483648) (hq : F j = some q) (hd : decode (mC M) pc = .ok (.aaload, 1)) (hn : pc + 1 = n) (kk : Ev g M d n ls (.ref q :: st) h mc ms Q) : Ev g M d pc ls (.int (J z) :: .ref a :: st) h mc ms Q := by
  subst hz
  refine ev_aaloadR n hd ha (J_in hj hl) hn ?_
  rw [J_clampN (by omega), hq]
  exact kk
theorem el_of {α : AL} {e : Nat} {v : Int} {j : Nat} (hv : v = (j : Int)) : el α e v = some (α e j) := by
  subst hv
  unfold el
  rw [if_neg (by omega)]
  rfl
/-- what a list of the memory needs to be read -/
def LW (ν : Nat → Nat → Bool) (X : XM) (i : Nat) : Prop := vk ν 1 i = true ∧ (X 1 i 1 ≠ 0 → ν 2 i = true ∧ X 1 i 2 ≤ X 2 i 0) ∧ (X 1 i 1 = 0 → X 1 i 2 = 0) ∧ 0 ≤ X 1 i 2 ∧ X 2 i 0 ≤ 1000
theorem lw_i (hT : TR g α ν X h) (hW : WX ν X) {i : Nat} (hi : i < 4) : LW ν X i := by
  have e : 0 ≤ X 1 i 2 := by
    rcases (show i = 0 ∨ i = 1 ∨ i = 2 ∨ i = 3 by omega) with rfl | rfl | rfl | rfl
    · exact (wo_nC hW.1).1
    · exact (wo_nS hW.1).1
    · exact (wo_nF hW.1).1
    · exact (wo_nR hW.1).1
  refine ⟨?_, wv_lst hW.2 i hi, wv_ls0 hW.2 i hi, e, wv_cap hW.2 i⟩
  rcases (show i = 0 ∨ i = 1 ∨ i = 2 ∨ i = 3 by omega) with rfl | rfl | rfl | rfl
  · exact tv1_0 hT
  · exact tv1_1 hT
  · exact tv1_2 hT
  · exact tv1_3 hT
theorem lw_w (hT : TR g α ν X h) (hW : WX ν X) {c : Nat} (hc : (c : Int) < nC X) : LW ν X (4 + c) :=
  ⟨tv1_W hT (wx_crs hW hc), wv_wst hW.2 c hc, wv_ws0 hW.2 c hc, (wo_wN hW.1 c hc).1, wv_cap hW.2 _⟩
theorem lw_cell (hT : TR g α ν X h) {i : Nat} (hL : LW ν X i) : h (α 1 i) = some (ck1 g α i (X 1 i)) := (hT.1 1 i hL.1).1
theorem lw_cellE (hT : TR g α ν X h) {i : Nat} (hL : LW ν X i) (he : X 1 i 1 ≠ 0) : h (α 1 i) = some (.inr (2, [.int (J (X 1 i 0)), .ref (α 2 i), .int (J (X 1 i 2))])) := by
  rw [lw_cell hT hL, ck1, if_neg he]
theorem lw_arr (hT : TR g α ν X h) {i : Nat} (hL : LW ν X i) (he : X 1 i 1 ≠ 0) : h (α 2 i) = some (ck2 g α i (X 2 i)) := tr2 hT (hL.2.1 he).1
theorem pr_cn {av : List Value} {v : Option Value} (c : Pr g M d av h v) : Cn g M d av h 0 0 (PQ v h) := cn_of_ct (fun E h' q => by cases q.1) c
theorem tc_SN2 {x0 x1 : Value} {v : Value} {host : String} {index : Nat} (n : Nat) (hd : decode (mC M) pc = .ok (.invokestatic index, 3)) (L : LKn (mY M).cls index M2 2 host) (hs : Cond.static (mY M2) ∈ lw_tbl) (hn : pc + 3 = n) (hd1 : d1 < d) (hcat : (st.map fun v => v.category).sum ≤ 8) (hc : Pr g M2 d1 [x0, x1] h (some v)) (kk : Ev g M d n ls (v :: st) h mc ms Q) : Ev g M d pc ls (x1 :: x0 :: st) h mc ms Q :=
  ev_mono (mc := 0 + mc) (ms := 0 + ms) (by omega) (by omega) (ev_callSN n L hs (pr_cn hc) hd1 rfl rfl hcat hd hn (fun v h' hq => by obtain ⟨e1, rfl⟩ := hq; cases e1; exact kk) (fun E h' hq => by cases hq.1))
theorem tc_U3 {x0 x1 x2 : Value} {v : Value} {C : String} {x : MethodName} {b ci : Nat} {fs : List Value} {index : Nat} (n : Nat) (hd : decode (mC M) pc = .ok (.invokevirtual index, 3)) (L : LKu (mY M).cls C index x M2 3) (hdecl : ∀ s : State, CTX g s → va_Decl s x) (hb : h b = some (.inr (ci, fs))) (hci : vwCl[ci]?.map (·.1) = some C) (hn : pc + 3 = n) (hd1 : d1 < d) (hcat : (st.map fun v => v.category).sum ≤ 8) (hc : Pr g M2 d1 [.ref b, x0, x1, x2] h (some v)) (kk : Ev g M d n ls (v :: st) h mc ms Q) : Ev g M d pc ls (x2 :: x1 :: x0 :: .ref b :: st) h mc ms Q :=
  ev_mono (mc := 0 + mc) (ms := 0 + ms) (by omega) (by omega) (ev_callU n L hdecl (pr_cn hc) hd1 hb hci rfl rfl hcat hd hn (fun v h' hq => by obtain ⟨e1, rfl⟩ := hq; cases e1; exact kk) (fun E h' hq => by cases hq.1))
theorem tc_U1 {x0 : Value} {v : Value} {C : String} {x : MethodName} {b ci : Nat} {fs : List Value} {index : Nat} (n : Nat) (hd : decode (mC M) pc = .ok (.invokevirtual index, 3)) (L : LKu (mY M).cls C index x M2 1) (hdecl : ∀ s : State, CTX g s → va_Decl s x) (hb : h b = some (.inr (ci, fs))) (hci : vwCl[ci]?.map (·.1) = some C) (hn : pc + 3 = n) (hd1 : d1 < d) (hcat : (st.map fun v => v.category).sum ≤ 8) (hc : Pr g M2 d1 [.ref b, x0] h (some v)) (kk : Ev g M d n ls (v :: st) h mc ms Q) : Ev g M d pc ls (x0 :: .ref b :: st) h mc ms Q :=
  ev_mono (mc := 0 + mc) (ms := 0 + ms) (by omega) (by omega) (ev_callU n L hdecl (pr_cn hc) hd1 hb hci rfl rfl hcat hd hn (fun v h' hq => by obtain ⟨e1, rfl⟩ := hq; cases e1; exact kk) (fun E h' hq => by cases hq.1))
theorem tj_mmax {index : Nat} {a b : Int} (n : Nat) (hd : decode (mC M) pc = .ok (.invokestatic index, 3)) (hl : Cond.methodLink (mY M).cls index Lib.Math.max.name ∈ lw_tbl) (hdd : 1 ≤ d) (hcat : (st.map fun v => v.category).sum + 13 ≤ 46 * d) (hn : pc + 3 = n) (ra : R31 a) (rb : R31 b) (kk : Ev g M d n ls (.int (J (if a < b then b else a)) :: st) h mc ms Q) : Ev g M d pc ls (.int (J b) :: .int (J a) :: st) h mc ms Q := by
  refine ev_mmax n hd hl mmax_w hdd hcat hn ?_
  have e : (if J a < J b then J b else J a) = J (if a < b then b else a) := by
    by_cases c : a < b
    · rw [if_pos c, if_pos ((J_lt ra rb).mpr c)]
    · rw [if_neg c, if_neg (fun z => c ((J_lt ra rb).mp z))]
  rw [e]
  exact kk
end RU3
