/-! THE LAW: rows for its walk -/
set_option maxRecDepth 100000 in
set_option maxHeartbeats 4000000 in
theorem c_X12_thrown {g : Gt} {α : AL} {ν : Nat → Nat → Bool} {X : XM} {h : AH} (hT : TR g α ν X h) : Pr g M_X12_thrown 27 [.ref (α 40 0)] h (some (.int (J (X 40 0 0)))) := by
  refine pr_of rfl rfl (ls := [some (.ref (α 40 0))]) rfl (Nat.le_of_ble_eq_true rfl) ?_
  show Ev g M_X12_thrown 27 0 [some (.ref (α 40 0))] [] h 0 0 (PQ (some (.int (J (X 40 0 0)))) h)
  refine ev_ald0 1 dX12_thrown_0 rfl ?_
  refine ev_getfield 4 14 0 fl_X12_89_14 (tr40 hT) rfl dX12_thrown_1 rfl ?_
  exact ev_ireturn (pq_i (by first | rfl | omega | exact bi_dt (by omega) | exact bi_df (by omega) | (skip))) rfl dX12_thrown_4
abbrev M_L_law : Mt := (yL_law, cL_law, 9, ret, [])
/-- a link of a static method with handlers -/
def LKh (own : String) (index : Nat) (M2 : Mt) (n : Nat) : Prop := (mW M2 = Cond.codeWith (mY M2) (mC M2) (mL M2) (mR M2) (mH M2) ∧ Cond.methodLink own index (mY M2) ∈ lw_tbl ∧ Cond.codeWith (mY M2) (mC M2) (mL M2) (mR M2) (mH M2) ∈ lw_tbl ∧ Cond.initialized (mY M2).cls ∈ lw_tbl ∧ mL M2 ≤ 27) ∧
  ((mY M2).cls ≠ "java/lang/invoke/MethodHandle" ∧ (mY M2).cls ≠ "java/lang/invoke/VarHandle" ∧ (parseMethodDescriptor (mY M2).desc).map (fun d => d.parameters.length) = some n) ∧ Cond.static (mY M2) ∈ lw_tbl
section LWB
variable {g : Gt} {α : AL} {ν : Nat → Nat → Bool} {X : XM} {M M2 : Mt} {d d1 pc : Nat} {ls : List (Option Value)} {st st0 : List Value} {h : AH} {mc ms mc1 ms1 : Nat} {Q Q1 : RT → AH → Prop}
theorem ev_callSH {index k : Nat} {As : List Value} (n : Nat) (L : LKh (mY M).cls index M2 k) (hc : Ct g M2 d1 As h mc1 ms1 Q1) (hd1 : d1 < d) (hk : As.length = k) (hst : st0 = As.reverse ++ st) (hcat : (st.map fun v => v.category).sum ≤ 8) (hd : decode (mC M) pc = .ok (.invokestatic index, 3)) (hn : pc + 3 = n)
    (kr : ∀ v h', Q1 (.inl v) h' → Ev g M d n ls (v.toList ++ st) h' mc ms Q) (kx : ∀ E h', Q1 (.inr E) h' → Xv g M d pc ls E h' mc ms Q) : Ev g M d pc ls st0 h (mc1 + mc) (ms1 + ms) Q := by
  subst hst
  refine ev_of_vrun (As := As.toArray) n (fun p e s m args below meth c H locs cells slots lsA tc ts hM hS hL h1 h2 => ?_) hn kr kx
  have hC := hM.2.2.2.2.2.2.2.2
  obtain ⟨⟨l1, l2, l3, l4, l5⟩, l6, l7⟩ := L
  have ew : mWs M2 = Cond.codeWith (mY M2) (mC M2) (mL M2) (mR M2) (mH M2) :: [] := by show [mW M2] = _; rw [l1]
  have hR := rm_le (M2 := M2) hd1 l5 tc ts
  have hcw : ∀ A : Array Value, (Cond.codeWith (mY M2) (mC M2) (mL M2) (mR M2) (mH M2)).before A s = true := fun A => AW.at hC l3 rfl
  refine vx_runSX (Ts := [Cond.codeWith (mY M2) (mC M2) (mL M2) (mR M2) (mH M2)]) (n := k) (hh := mH M2) (bytes := mC M2) (maxL := mL M2) (ret := mR M2) ⟨hM.1, hM.2.1, hM.2.2.2.2.1, hM.2.2.2.1, fun w hw => by rw [List.mem_singleton.mp hw]; exact hcw _⟩ hc ⟨⟨rfl, rfl, hR.1, hR.2, fun w hw a' U hW => ?_, by rw [ew]; exact List.mem_cons_self⟩, hcw _, AW.at hC l4 rfl, ⟨l6.1, l6.2.1⟩, fun sig hs => ?_, AW.at hC l2 rfl, AW.at hC l7 rfl⟩ ⟨ct_blind, fun U hU hW => ct_at hC hS hU hW⟩ rfl hk hL.1 rfl (lv_room hcat) hd ⟨by show cells + mc1 ≤ tc; omega, by show slots + ms1 ≤ ts; omega⟩
  · rw [ew] at hw
    rw [List.mem_singleton.mp hw]
    exact word_at hW (good_of_word rfl) (hcw args)
  · have h2 := l6.2.2
    rw [hs] at h2
    exact (Option.some.inj h2).symm
/-- a call of the law's own -/
theorem lh_S {As : List Value} {v : Value} {P : AL → (Nat → Nat → Bool) → XM → Prop} {index k : Nat} (n : Nat) (hd : decode (mC M) pc = .ok (.invokestatic index, 3)) (L : LKh (mY M).cls index M2 k) (hc : Al g M2 d1 As h mc1 ms1 (some v) P) (hd1 : d1 < d) (hk : As.length = k) (hst : st0 = As.reverse ++ st) (hcat : (st.map fun v => v.category).sum ≤ 8) (hn : pc + 3 = n) (kk : ∀ h' α' ν' X', TR g α' ν' X' h' → P α' ν' X' → Ev g M d n ls (v :: st) h' mc ms Q) : Ev g M d pc ls st0 h (mc1 + mc) (ms1 + ms) Q :=
  ev_callSH n L hc hd1 hk hst hcat hd hn (fun v2 h' hq => by obtain ⟨e1, α', ν', X', e2, e3⟩ := hq; cases e1; exact kk h' α' ν' X' e2 e3) (fun E h' hq => by cases hq.1)
/-- an int of the script -/
theorem lq_scr {z a : Int} (j n : Nat) (hz : z = (j : Int)) (hj : j < (gX g).2.1) (hl : (gX g).2.1 ≤ 2048) (he : (gX g).2.2 j = J a) (hd : decode (mC M) pc = .ok (.iaload, 1)) (hn : pc + 1 = n) (kk : Ev g M d n ls (.int (J a) :: st) h mc ms Q) : Ev g M d pc ls (.int (J z) :: .ref (gX g).1 :: st) h mc ms Q :=
  ev_scr j n hz hj hl hd hn (by rw [he]; exact kk)
theorem lq_lald {a : Nat} {z v : Int} (n : Nat) (hT : TR g α ν X h) (ha : α 90 0 = a) (hz : z = 0) (hv : X 90 0 0 = v) (hd : decode (mC M) pc = .ok (.laload, 1)) (hn : pc + 1 = n) (kk : Ev g M d n ls (.long (Int64.ofInt v) :: st) h mc ms Q) : Ev g M d pc ls (.int (J z) :: .ref a :: st) h mc ms Q := by
  subst ha
  exact tv_lald n hT hz hd hn (by rw [hv]; exact kk)
theorem lq_dald {a : Nat} {z : Int} {v : UInt64} (n : Nat) (hT : TR g α ν X h) (ha : α 91 0 = a) (hz : z = 0) (hv : UInt64.ofNat (X 91 0 0).toNat = v) (hd : decode (mC M) pc = .ok (.daload, 1)) (hn : pc + 1 = n) (kk : Ev g M d n ls (.double v :: st) h mc ms Q) : Ev g M d pc ls (.int (J z) :: .ref a :: st) h mc ms Q := by
  subst ha
  exact tv_dald n hT hz hd hn (by rw [hv]; exact kk)
theorem lcmp_self (v : Int64) : lg_cmp v v = J 0 := by
  unfold lg_cmp
  simp
  rfl
/-- the law's locals between two calls: the script, the object, the reference, two rows, the place -/
abbrev lsL (g : Gt) (α : AL) (i : Int) : List (Option Value) := [some (.ref (gX g).1), some (.ref (α 0 0)), some (.ref (α 40 0)), some (.ref (α 90 0)), some (.ref (α 91 0)), some (.int (J i)), none, none, none]
theorem lsL_le {a0 a1 a2 a3 a4 a5 o6 o7 o8 : Option Value} : ∀ (i : Nat) (v : Value), ldL [a0, a1, a2, a3, a4, a5, none, none, none] i = some v → ldL [a0, a1, a2, a3, a4, a5, o6, o7, o8] i = some v := by
  intro i v hv
  rcases i with _ | _ | _ | _ | _ | _ | i
  · rw [ldL_0] at hv ⊢; exact hv
  · rw [ldL_s, ldL_0] at hv ⊢; exact hv
  · rw [ldL_s, ldL_s, ldL_0] at hv ⊢; exact hv
  · rw [ldL_s, ldL_s, ldL_s, ldL_0] at hv ⊢; exact hv
  · rw [ldL_s, ldL_s, ldL_s, ldL_s, ldL_0] at hv ⊢; exact hv
  · rw [ldL_s, ldL_s, ldL_s, ldL_s, ldL_s, ldL_0] at hv ⊢; exact hv
  · rw [ldL_s, ldL_s, ldL_s, ldL_s, ldL_s, ldL_s] at hv
    exfalso
    rcases i with _ | _ | _ | i
    · rw [ldL_0] at hv; cases hv
    · rw [ldL_s, ldL_0] at hv; cases hv
    · rw [ldL_s, ldL_s, ldL_0] at hv; cases hv
    · rw [ldL_s, ldL_s, ldL_s, ldL_nil] at hv; cases hv
/-- every int is one -/
theorem scr_J (x : Int32) : ∃ a : Int, R31 a ∧ x = J a := ⟨x.toInt, ⟨Int32.le_toInt x, Int32.toInt_lt x⟩, (Int32.ofInt_toInt x).symm⟩
theorem and_63 (x : Int32) : ∃ n : Nat, n < 64 ∧ x &&& J 63 = J (n : Int) := by
  refine ⟨(x.toBitVec &&& 63#32).toNat, ?_, ?_⟩
  · rw [BitVec.toNat_and]
    have : x.toBitVec.toNat &&& (63#32).toNat ≤ 63 := Nat.and_le_right
    omega
  · apply Int32.toBitVec_inj.mp
    rw [Int32.toBitVec_and]
    show x.toBitVec &&& (63#32) = BitVec.ofInt 32 (((x.toBitVec &&& 63#32).toNat : Nat) : Int)
    rw [BitVec.ofInt_natCast, BitVec.ofNat_toNat, BitVec.setWidth_eq]
end LWB
theorem lh_182 : LKh RL 182 M_L_addCourse 4 := ⟨⟨rfl, List.mem_of_getElem? (i := 490) (by decide +kernel), List.mem_of_getElem? (i := 492) (by decide +kernel), List.mem_of_getElem? (i := 97) (by decide +kernel), by decide⟩, ⟨by decide +kernel, by decide +kernel, by decide +kernel⟩, List.mem_of_getElem? (i := 491) (by decide +kernel)⟩
theorem lh_191 : LKh RL 191 M_L_addStudent 3 := ⟨⟨rfl, List.mem_of_getElem? (i := 685) (by decide +kernel), List.mem_of_getElem? (i := 687) (by decide +kernel), List.mem_of_getElem? (i := 97) (by decide +kernel), by decide⟩, ⟨by decide +kernel, by decide +kernel, by decide +kernel⟩, List.mem_of_getElem? (i := 686) (by decide +kernel)⟩
theorem lh_195 : LKh RL 195 M_L_changeMajor 4 := ⟨⟨rfl, List.mem_of_getElem? (i := 697) (by decide +kernel), List.mem_of_getElem? (i := 699) (by decide +kernel), List.mem_of_getElem? (i := 97) (by decide +kernel), by decide⟩, ⟨by decide +kernel, by decide +kernel, by decide +kernel⟩, List.mem_of_getElem? (i := 698) (by decide +kernel)⟩
theorem lh_198 : LKh RL 198 M_L_majorOf 3 := ⟨⟨rfl, List.mem_of_getElem? (i := 762) (by decide +kernel), List.mem_of_getElem? (i := 764) (by decide +kernel), List.mem_of_getElem? (i := 97) (by decide +kernel), by decide⟩, ⟨by decide +kernel, by decide +kernel, by decide +kernel⟩, List.mem_of_getElem? (i := 763) (by decide +kernel)⟩
theorem lh_201 : LKh RL 201 M_L_reserve 5 := ⟨⟨rfl, List.mem_of_getElem? (i := 769) (by decide +kernel), List.mem_of_getElem? (i := 771) (by decide +kernel), List.mem_of_getElem? (i := 97) (by decide +kernel), by decide⟩, ⟨by decide +kernel, by decide +kernel, by decide +kernel⟩, List.mem_of_getElem? (i := 770) (by decide +kernel)⟩
theorem lh_205 : LKh RL 205 M_L_markFormula 4 := ⟨⟨rfl, List.mem_of_getElem? (i := 787) (by decide +kernel), List.mem_of_getElem? (i := 789) (by decide +kernel), List.mem_of_getElem? (i := 97) (by decide +kernel), by decide⟩, ⟨by decide +kernel, by decide +kernel, by decide +kernel⟩, List.mem_of_getElem? (i := 788) (by decide +kernel)⟩
theorem lh_208 : LKh RL 208 M_L_togetherFormula 3 := ⟨⟨rfl, List.mem_of_getElem? (i := 827) (by decide +kernel), List.mem_of_getElem? (i := 829) (by decide +kernel), List.mem_of_getElem? (i := 97) (by decide +kernel), by decide⟩, ⟨by decide +kernel, by decide +kernel, by decide +kernel⟩, List.mem_of_getElem? (i := 828) (by decide +kernel)⟩
theorem lh_211 : LKh RL 211 M_L_creditsFormula 3 := ⟨⟨rfl, List.mem_of_getElem? (i := 845) (by decide +kernel), List.mem_of_getElem? (i := 847) (by decide +kernel), List.mem_of_getElem? (i := 97) (by decide +kernel), by decide⟩, ⟨by decide +kernel, by decide +kernel, by decide +kernel⟩, List.mem_of_getElem? (i := 846) (by decide +kernel)⟩
theorem lh_214 : LKh RL 214 M_L_allFormula 4 := ⟨⟨rfl, List.mem_of_getElem? (i := 864) (by decide +kernel), List.mem_of_getElem? (i := 866) (by decide +kernel), List.mem_of_getElem? (i := 97) (by decide +kernel), by decide⟩, ⟨by decide +kernel, by decide +kernel, by decide +kernel⟩, List.mem_of_getElem? (i := 865) (by decide +kernel)⟩
theorem lh_217 : LKh RL 217 M_L_anyFormula 4 := ⟨⟨rfl, List.mem_of_getElem? (i := 912) (by decide +kernel), List.mem_of_getElem? (i := 914) (by decide +kernel), List.mem_of_getElem? (i := 97) (by decide +kernel), by decide⟩, ⟨by decide +kernel, by decide +kernel, by decide +kernel⟩, List.mem_of_getElem? (i := 913) (by decide +kernel)⟩
theorem lh_220 : LKh RL 220 M_L_twoFormula 5 := ⟨⟨rfl, List.mem_of_getElem? (i := 919) (by decide +kernel), List.mem_of_getElem? (i := 921) (by decide +kernel), List.mem_of_getElem? (i := 97) (by decide +kernel), by decide⟩, ⟨by decide +kernel, by decide +kernel, by decide +kernel⟩, List.mem_of_getElem? (i := 920) (by decide +kernel)⟩
theorem lh_223 : LKh RL 223 M_L_noneFormula 3 := ⟨⟨rfl, List.mem_of_getElem? (i := 926) (by decide +kernel), List.mem_of_getElem? (i := 928) (by decide +kernel), List.mem_of_getElem? (i := 97) (by decide +kernel), by decide⟩, ⟨by decide +kernel, by decide +kernel, by decide +kernel⟩, List.mem_of_getElem? (i := 927) (by decide +kernel)⟩
theorem lh_226 : LKh RL 226 M_L_holds 4 := ⟨⟨rfl, List.mem_of_getElem? (i := 944) (by decide +kernel), List.mem_of_getElem? (i := 946) (by decide +kernel), List.mem_of_getElem? (i := 97) (by decide +kernel), by decide⟩, ⟨by decide +kernel, by decide +kernel, by decide +kernel⟩, List.mem_of_getElem? (i := 945) (by decide +kernel)⟩
theorem lh_229 : LKh RL 229 M_L_require 4 := ⟨⟨rfl, List.mem_of_getElem? (i := 951) (by decide +kernel), List.mem_of_getElem? (i := 953) (by decide +kernel), List.mem_of_getElem? (i := 97) (by decide +kernel), by decide⟩, ⟨by decide +kernel, by decide +kernel, by decide +kernel⟩, List.mem_of_getElem? (i := 952) (by decide +kernel)⟩
theorem lh_232 : LKh RL 232 M_L_lift 3 := ⟨⟨rfl, List.mem_of_getElem? (i := 958) (by decide +kernel), List.mem_of_getElem? (i := 960) (by decide +kernel), List.mem_of_getElem? (i := 97) (by decide +kernel), by decide⟩, ⟨by decide +kernel, by decide +kernel, by decide +kernel⟩, List.mem_of_getElem? (i := 959) (by decide +kernel)⟩
theorem lh_235 : LKh RL 235 M_L_pass 3 := ⟨⟨rfl, List.mem_of_getElem? (i := 965) (by decide +kernel), List.mem_of_getElem? (i := 967) (by decide +kernel), List.mem_of_getElem? (i := 97) (by decide +kernel), by decide⟩, ⟨by decide +kernel, by decide +kernel, by decide +kernel⟩, List.mem_of_getElem? (i := 966) (by decide +kernel)⟩
theorem lh_246 : LKh RL 246 M_L_enroll 4 := ⟨⟨rfl, List.mem_of_getElem? (i := 982) (by decide +kernel), List.mem_of_getElem? (i := 984) (by decide +kernel), List.mem_of_getElem? (i := 97) (by decide +kernel), by decide⟩, ⟨by decide +kernel, by decide +kernel, by decide +kernel⟩, List.mem_of_getElem? (i := 983) (by decide +kernel)⟩
theorem lh_249 : LKh RL 249 M_L_outcome 4 := ⟨⟨rfl, List.mem_of_getElem? (i := 1036) (by decide +kernel), List.mem_of_getElem? (i := 1038) (by decide +kernel), List.mem_of_getElem? (i := 97) (by decide +kernel), by decide⟩, ⟨by decide +kernel, by decide +kernel, by decide +kernel⟩, List.mem_of_getElem? (i := 1037) (by decide +kernel)⟩
theorem lh_252 : LKh RL 252 M_L_drop 4 := ⟨⟨rfl, List.mem_of_getElem? (i := 1043) (by decide +kernel), List.mem_of_getElem? (i := 1045) (by decide +kernel), List.mem_of_getElem? (i := 97) (by decide +kernel), by decide⟩, ⟨by decide +kernel, by decide +kernel, by decide +kernel⟩, List.mem_of_getElem? (i := 1044) (by decide +kernel)⟩
theorem lh_255 : LKh RL 255 M_L_swap 5 := ⟨⟨rfl, List.mem_of_getElem? (i := 1075) (by decide +kernel), List.mem_of_getElem? (i := 1077) (by decide +kernel), List.mem_of_getElem? (i := 97) (by decide +kernel), by decide⟩, ⟨by decide +kernel, by decide +kernel, by decide +kernel⟩, List.mem_of_getElem? (i := 1076) (by decide +kernel)⟩
theorem lh_258 : LKh RL 258 M_L_mark 5 := ⟨⟨rfl, List.mem_of_getElem? (i := 1086) (by decide +kernel), List.mem_of_getElem? (i := 1088) (by decide +kernel), List.mem_of_getElem? (i := 97) (by decide +kernel), by decide⟩, ⟨by decide +kernel, by decide +kernel, by decide +kernel⟩, List.mem_of_getElem? (i := 1087) (by decide +kernel)⟩
theorem lh_261 : LKh RL 261 M_L_endTerm 2 := ⟨⟨rfl, List.mem_of_getElem? (i := 1095) (by decide +kernel), List.mem_of_getElem? (i := 1097) (by decide +kernel), List.mem_of_getElem? (i := 97) (by decide +kernel), by decide⟩, ⟨by decide +kernel, by decide +kernel, by decide +kernel⟩, List.mem_of_getElem? (i := 1096) (by decide +kernel)⟩
theorem lh_265 : LKh RL 265 M_L_moveIn 4 := ⟨⟨rfl, List.mem_of_getElem? (i := 1107) (by decide +kernel), List.mem_of_getElem? (i := 1109) (by decide +kernel), List.mem_of_getElem? (i := 97) (by decide +kernel), by decide⟩, ⟨by decide +kernel, by decide +kernel, by decide +kernel⟩, List.mem_of_getElem? (i := 1108) (by decide +kernel)⟩
theorem lh_268 : LKh RL 268 M_L_bestMark 4 := ⟨⟨rfl, List.mem_of_getElem? (i := 1124) (by decide +kernel), List.mem_of_getElem? (i := 1126) (by decide +kernel), List.mem_of_getElem? (i := 97) (by decide +kernel), by decide⟩, ⟨by decide +kernel, by decide +kernel, by decide +kernel⟩, List.mem_of_getElem? (i := 1125) (by decide +kernel)⟩
theorem lh_271 : LKh RL 271 M_L_attempts 4 := ⟨⟨rfl, List.mem_of_getElem? (i := 1132) (by decide +kernel), List.mem_of_getElem? (i := 1134) (by decide +kernel), List.mem_of_getElem? (i := 97) (by decide +kernel), by decide⟩, ⟨by decide +kernel, by decide +kernel, by decide +kernel⟩, List.mem_of_getElem? (i := 1133) (by decide +kernel)⟩
theorem lh_274 : LKh RL 274 M_L_earnedCredits 3 := ⟨⟨rfl, List.mem_of_getElem? (i := 1139) (by decide +kernel), List.mem_of_getElem? (i := 1141) (by decide +kernel), List.mem_of_getElem? (i := 97) (by decide +kernel), by decide⟩, ⟨by decide +kernel, by decide +kernel, by decide +kernel⟩, List.mem_of_getElem? (i := 1140) (by decide +kernel)⟩
theorem lh_282 : LKh RL 282 M_L_average 3 := ⟨⟨rfl, List.mem_of_getElem? (i := 1146) (by decide +kernel), List.mem_of_getElem? (i := 1148) (by decide +kernel), List.mem_of_getElem? (i := 97) (by decide +kernel), by decide⟩, ⟨by decide +kernel, by decide +kernel, by decide +kernel⟩, List.mem_of_getElem? (i := 1147) (by decide +kernel)⟩
theorem lh_286 : LKh RL 286 M_L_load 3 := ⟨⟨rfl, List.mem_of_getElem? (i := 1158) (by decide +kernel), List.mem_of_getElem? (i := 1160) (by decide +kernel), List.mem_of_getElem? (i := 97) (by decide +kernel), by decide⟩, ⟨by decide +kernel, by decide +kernel, by decide +kernel⟩, List.mem_of_getElem? (i := 1159) (by decide +kernel)⟩
theorem lh_289 : LKh RL 289 M_L_isEnrolled 4 := ⟨⟨rfl, List.mem_of_getElem? (i := 1165) (by decide +kernel), List.mem_of_getElem? (i := 1167) (by decide +kernel), List.mem_of_getElem? (i := 97) (by decide +kernel), by decide⟩, ⟨by decide +kernel, by decide +kernel, by decide +kernel⟩, List.mem_of_getElem? (i := 1166) (by decide +kernel)⟩
theorem lh_292 : LKh RL 292 M_L_enrolled 3 := ⟨⟨rfl, List.mem_of_getElem? (i := 1172) (by decide +kernel), List.mem_of_getElem? (i := 1174) (by decide +kernel), List.mem_of_getElem? (i := 97) (by decide +kernel), by decide⟩, ⟨by decide +kernel, by decide +kernel, by decide +kernel⟩, List.mem_of_getElem? (i := 1173) (by decide +kernel)⟩
theorem lh_295 : LKh RL 295 M_L_waiting 3 := ⟨⟨rfl, List.mem_of_getElem? (i := 1179) (by decide +kernel), List.mem_of_getElem? (i := 1181) (by decide +kernel), List.mem_of_getElem? (i := 97) (by decide +kernel), by decide⟩, ⟨by decide +kernel, by decide +kernel, by decide +kernel⟩, List.mem_of_getElem? (i := 1180) (by decide +kernel)⟩
theorem lh_298 : LKh RL 298 M_L_placeOf 4 := ⟨⟨rfl, List.mem_of_getElem? (i := 1186) (by decide +kernel), List.mem_of_getElem? (i := 1188) (by decide +kernel), List.mem_of_getElem? (i := 97) (by decide +kernel), by decide⟩, ⟨by decide +kernel, by decide +kernel, by decide +kernel⟩, List.mem_of_getElem? (i := 1187) (by decide +kernel)⟩
theorem lh_301 : LKh RL 301 M_L_freeSeats 4 := ⟨⟨rfl, List.mem_of_getElem? (i := 1194) (by decide +kernel), List.mem_of_getElem? (i := 1196) (by decide +kernel), List.mem_of_getElem? (i := 97) (by decide +kernel), by decide⟩, ⟨by decide +kernel, by decide +kernel, by decide +kernel⟩, List.mem_of_getElem? (i := 1195) (by decide +kernel)⟩
theorem lh_304 : LKh RL 304 M_L_share 3 := ⟨⟨rfl, List.mem_of_getElem? (i := 1201) (by decide +kernel), List.mem_of_getElem? (i := 1203) (by decide +kernel), List.mem_of_getElem? (i := 97) (by decide +kernel), by decide⟩, ⟨by decide +kernel, by decide +kernel, by decide +kernel⟩, List.mem_of_getElem? (i := 1202) (by decide +kernel)⟩
theorem lh_307 : LKh RL 307 M_L_whyNot 4 := ⟨⟨rfl, List.mem_of_getElem? (i := 1208) (by decide +kernel), List.mem_of_getElem? (i := 1210) (by decide +kernel), List.mem_of_getElem? (i := 97) (by decide +kernel), by decide⟩, ⟨by decide +kernel, by decide +kernel, by decide +kernel⟩, List.mem_of_getElem? (i := 1209) (by decide +kernel)⟩
theorem lh_310 : LKh RL 310 M_L_whyLong 4 := ⟨⟨rfl, List.mem_of_getElem? (i := 1232) (by decide +kernel), List.mem_of_getElem? (i := 1234) (by decide +kernel), List.mem_of_getElem? (i := 97) (by decide +kernel), by decide⟩, ⟨by decide +kernel, by decide +kernel, by decide +kernel⟩, List.mem_of_getElem? (i := 1233) (by decide +kernel)⟩
theorem lh_313 : LKh RL 313 M_L_termsTo 3 := ⟨⟨rfl, List.mem_of_getElem? (i := 1239) (by decide +kernel), List.mem_of_getElem? (i := 1241) (by decide +kernel), List.mem_of_getElem? (i := 97) (by decide +kernel), by decide⟩, ⟨by decide +kernel, by decide +kernel, by decide +kernel⟩, List.mem_of_getElem? (i := 1240) (by decide +kernel)⟩
theorem lh_316 : LKh RL 316 M_L_transcriptLength 3 := ⟨⟨rfl, List.mem_of_getElem? (i := 1255) (by decide +kernel), List.mem_of_getElem? (i := 1257) (by decide +kernel), List.mem_of_getElem? (i := 97) (by decide +kernel), by decide⟩, ⟨by decide +kernel, by decide +kernel, by decide +kernel⟩, List.mem_of_getElem? (i := 1256) (by decide +kernel)⟩
theorem lh_319 : LKh RL 319 M_L_transcriptAt 4 := ⟨⟨rfl, List.mem_of_getElem? (i := 1278) (by decide +kernel), List.mem_of_getElem? (i := 1280) (by decide +kernel), List.mem_of_getElem? (i := 97) (by decide +kernel), by decide⟩, ⟨by decide +kernel, by decide +kernel, by decide +kernel⟩, List.mem_of_getElem? (i := 1279) (by decide +kernel)⟩
theorem lh_322 : LKh RL 322 M_L_addRule 5 := ⟨⟨rfl, List.mem_of_getElem? (i := 1286) (by decide +kernel), List.mem_of_getElem? (i := 1288) (by decide +kernel), List.mem_of_getElem? (i := 97) (by decide +kernel), by decide⟩, ⟨by decide +kernel, by decide +kernel, by decide +kernel⟩, List.mem_of_getElem? (i := 1287) (by decide +kernel)⟩
theorem lh_325 : LKh RL 325 M_L_allow 4 := ⟨⟨rfl, List.mem_of_getElem? (i := 1324) (by decide +kernel), List.mem_of_getElem? (i := 1326) (by decide +kernel), List.mem_of_getElem? (i := 97) (by decide +kernel), by decide⟩, ⟨by decide +kernel, by decide +kernel, by decide +kernel⟩, List.mem_of_getElem? (i := 1325) (by decide +kernel)⟩
theorem lh_328 : LKh RL 328 M_L_mostMet 3 := ⟨⟨rfl, List.mem_of_getElem? (i := 1336) (by decide +kernel), List.mem_of_getElem? (i := 1338) (by decide +kernel), List.mem_of_getElem? (i := 97) (by decide +kernel), by decide⟩, ⟨by decide +kernel, by decide +kernel, by decide +kernel⟩, List.mem_of_getElem? (i := 1337) (by decide +kernel)⟩
theorem lh_331 : LKh RL 331 M_L_mostMetByTrial 3 := ⟨⟨rfl, List.mem_of_getElem? (i := 1343) (by decide +kernel), List.mem_of_getElem? (i := 1345) (by decide +kernel), List.mem_of_getElem? (i := 97) (by decide +kernel), by decide⟩, ⟨by decide +kernel, by decide +kernel, by decide +kernel⟩, List.mem_of_getElem? (i := 1344) (by decide +kernel)⟩
theorem lh_334 : LKh RL 334 M_L_mostMetIf 3 := ⟨⟨rfl, List.mem_of_getElem? (i := 1350) (by decide +kernel), List.mem_of_getElem? (i := 1352) (by decide +kernel), List.mem_of_getElem? (i := 97) (by decide +kernel), by decide⟩, ⟨by decide +kernel, by decide +kernel, by decide +kernel⟩, List.mem_of_getElem? (i := 1351) (by decide +kernel)⟩
theorem lh_337 : LKh RL 337 M_L_lackingRules 3 := ⟨⟨rfl, List.mem_of_getElem? (i := 1357) (by decide +kernel), List.mem_of_getElem? (i := 1359) (by decide +kernel), List.mem_of_getElem? (i := 97) (by decide +kernel), by decide⟩, ⟨by decide +kernel, by decide +kernel, by decide +kernel⟩, List.mem_of_getElem? (i := 1358) (by decide +kernel)⟩
theorem lh_340 : LKh RL 340 M_L_lackingByTrial 3 := ⟨⟨rfl, List.mem_of_getElem? (i := 1364) (by decide +kernel), List.mem_of_getElem? (i := 1366) (by decide +kernel), List.mem_of_getElem? (i := 97) (by decide +kernel), by decide⟩, ⟨by decide +kernel, by decide +kernel, by decide +kernel⟩, List.mem_of_getElem? (i := 1365) (by decide +kernel)⟩
theorem lh_343 : LKh RL 343 M_L_ruleFor 4 := ⟨⟨rfl, List.mem_of_getElem? (i := 1371) (by decide +kernel), List.mem_of_getElem? (i := 1373) (by decide +kernel), List.mem_of_getElem? (i := 97) (by decide +kernel), by decide⟩, ⟨by decide +kernel, by decide +kernel, by decide +kernel⟩, List.mem_of_getElem? (i := 1372) (by decide +kernel)⟩
theorem lh_346 : LKh RL 346 M_L_setDegree 4 := ⟨⟨rfl, List.mem_of_getElem? (i := 1388) (by decide +kernel), List.mem_of_getElem? (i := 1390) (by decide +kernel), List.mem_of_getElem? (i := 97) (by decide +kernel), by decide⟩, ⟨by decide +kernel, by decide +kernel, by decide +kernel⟩, List.mem_of_getElem? (i := 1389) (by decide +kernel)⟩
theorem lh_349 : LKh RL 349 M_L_canGraduate 3 := ⟨⟨rfl, List.mem_of_getElem? (i := 1395) (by decide +kernel), List.mem_of_getElem? (i := 1397) (by decide +kernel), List.mem_of_getElem? (i := 97) (by decide +kernel), by decide⟩, ⟨by decide +kernel, by decide +kernel, by decide +kernel⟩, List.mem_of_getElem? (i := 1396) (by decide +kernel)⟩
