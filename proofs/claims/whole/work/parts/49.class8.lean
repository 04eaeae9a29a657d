/-! THE CLASS: transcripts -/
theorem tj_i2c {g : Gt} {M : Mt} {d pc : Nat} {ls : List (Option Value)} {st : List Value} {h : AH} {mc ms : Nat} {Q : RT → AH → Prop} {z : Int} (n : Nat) (hd : decode (mC M) pc = .ok (.i2c, 1)) (hz : 0 ≤ z ∧ z < 128) (hn : pc + 1 = n) (k : Ev g M d n ls (.int (J z) :: st) h mc ms Q) : Ev g M d pc ls (.int (J z) :: st) h mc ms Q := by
  refine ev_i2c n hd hn ?_
  have key : ∀ q : Fin 128, ((J (q.val : Int)).toUInt32 % 65536).toInt32 = J (q.val : Int) := by decide +kernel
  have e := key ⟨z.toNat, by omega⟩
  have e2 : ((z.toNat : Nat) : Int) = z := by omega
  rw [show ((⟨z.toNat, by omega⟩ : Fin 128).val : Int) = z from e2] at e
  rw [e]
  exact k
/-- a number's digits, the attempts, a course, all of a student -/
def numL (v : Int) : List Int := (if 100 ≤ v then [48 + v / 100 % 10] else []) ++ ((if 10 ≤ v then [48 + v / 10 % 10] else []) ++ [48 + v % 10])
def tl (X : XM) (s c : Nat) : Nat → List Int
  | 0 => if X 6 s c ≠ 0 then [84] else []
  | k + 1 => tl X s c k ++ ((if 0 < k ∨ X 6 s c ≠ 0 then [44] else []) ++ (if X 11 (20 * s + c) k = -1 then [87] else numL (X 11 (20 * s + c) k)))
def crsL (X : XM) (s c : Nat) : List Int := numL c ++ ([61] ++ (tl X s c (X 9 s c).toNat ++ [59]))
def allL (X : XM) (s : Nat) : Nat → List Int
  | 0 => []
  | c + 1 => allL X s c ++ (if X 6 s c ≠ 0 ∨ 0 < X 9 s c then crsL X s c else [])
theorem numL_n (v : Int) : (numL v).length ≤ 3 := by unfold numL; split <;> split <;> simp
theorem tl_n (X : XM) (s c : Nat) : ∀ k, (tl X s c k).length ≤ 1 + 4 * k
  | 0 => by unfold tl; split <;> simp
  | k + 1 => by
    have h1 := tl_n X s c k
    have h2 := numL_n (X 11 (20 * s + c) k)
    unfold tl
    rw [List.length_append, List.length_append]
    split <;> split <;> simp <;> omega
theorem allL_n {X : XM} (hO : WO X) {s : Nat} (hs : (s : Int) < nS X) : ∀ c : Nat, (c : Int) ≤ nC X → (allL X s c).length ≤ 17 * c
  | 0, _ => Nat.le_refl 0
  | c + 1, hc => by
    have q := wo_nC hO
    have h1 := allL_n hO hs c (by omega)
    have h2 := wo_tri hO s c hs (by omega)
    have h3 := tl_n X s c (X 9 s c).toNat
    have h4 := numL_n (c : Int)
    unfold allL
    rw [List.length_append]
    split
    · unfold crsL
      simp only [List.length_append, List.length_cons, List.length_nil]
      by_cases e : c < 100
      · have h5 : (numL (c : Int)).length ≤ 2 := by unfold numL; rw [if_neg (by omega)]; split <;> simp
        omega
      · omega
    · simp only [List.length_nil]; omega
/-- the transcript says l; nothing else changed -/
def WT (X : XM) (l : List Int) (Y : XM) : Prop := (∀ k, k ≠ 27 → k ≠ 28 → Y k = X k) ∧ Y 27 0 1 = l.length ∧ ∀ j, j < l.length → Y 28 0 j = l.getD j 0
theorem WT_put {X Y : XM} {l : List Int} {v : Int} (h : WT X l Y) : WT X (l ++ [v]) (xs (xs Y 28 0 l.length v) 27 0 1 (l.length + 1)) := by
  obtain ⟨a1, a2, a3⟩ := h
  refine ⟨fun k h1 h2 => by rw [xs_nk h1, xs_nk h2]; exact a1 k h1 h2, by rw [xs_at, if_pos rfl]; simp, fun j hj => ?_⟩
  rw [xs_nk (by decide), xs_at]
  by_cases e : j = l.length
  · subst e; rw [if_pos rfl]; simp [List.getD]
  · have hj2 : j < l.length := by simp at hj; omega
    rw [if_neg e, a3 j hj2]
    simp [List.getD, List.getElem?_append_left hj2]
theorem WT_0 (X : XM) : WT X [] (xs X 27 0 1 0) := ⟨fun k h1 _ => xs_nk h1, by rw [xs_at, if_pos rfl]; rfl, fun j hj => absurd hj (Nat.not_lt_zero j)⟩
theorem getD_R {X Y : XM} {g : Gt} {α : AL} {ν : Nat → Nat → Bool} {h : AH} (hT : TR g α ν Y h) {l : List Int} (hI : WT X l Y) {j : Nat} (hj : j < l.length) : R31 (l.getD j 0) := by
  rw [← hI.2.2 j hj]
  exact hT.rng 28 0 j
set_option maxRecDepth 100000 in
set_option maxHeartbeats 4000000 in
theorem c_X10_put {g : Gt} {α : AL} {ν : Nat → Nat → Bool} {X : XM} {h : AH} {Y : XM} (hT : TR g α ν Y h) {l : List Int} (hI : WT X l Y) {v : Int} (hv : 0 ≤ v ∧ v < 128) (hl : l.length < 340) : Mu g α ν M_X10_put 0 [.ref (α 27 0), .int (J v)] h (none) (fun Y' => WT X (l ++ [v]) Y') := by
  refine mu_of rfl rfl (ls := [some (.ref (α 27 0)), some (.int (J v))]) rfl (Nat.le_of_ble_eq_true rfl) ?_
  show Ev g M_X10_put 0 0 [some (.ref (α 27 0)), some (.int (J v))] [] h 0 0 (UQ g α ν (none) (fun Y' => WT X (l ++ [v]) Y'))
  have e1 := hI.2.1
  refine ev_ald0 1 dX10_put_0 rfl ?_
  refine ev_getfield 4 12 1 fl_X10_15_12 (tr27 hT) rfl dX10_put_1 rfl ?_
  refine tj_sipush 7 dX10_put_4 (by decide) rfl ?_
  refine tj_icmp_ge 30 10 dX10_put_7 (by decide) rfl (by first | exact TR.rng hT _ _ _ | exact R31_of _ | exact bi_R _ | (constructor <;> omega)) (by first | exact TR.rng hT _ _ _ | exact R31_of _ | exact bi_R _ | (constructor <;> omega)) (fun c7 => ?_) (fun c7 => ?_)
  · exact False.elim (by omega)
  · skip
    refine ev_ald0 11 dX10_put_10 rfl ?_
    refine ev_getfield 14 12 0 fl_X10_11_12 (tr27 hT) rfl dX10_put_11 rfl ?_
    refine ev_ald0 15 dX10_put_14 rfl ?_
    refine ev_getfield 18 12 1 fl_X10_15_12 (tr27 hT) rfl dX10_put_15 rfl ?_
    refine ev_ild1 19 dX10_put_18 rfl ?_
    refine tv_cast 20 hT (tv28 hT) (fun _ => rfl) (l.length) (by omega) (by omega) (by omega) (by omega) dX10_put_19 rfl (fun h hT => ?_)
    obtain ⟨X3, hX3⟩ : ∃ Z, Z = xs Y 28 0 l.length v := ⟨_, rfl⟩
    rw [← hX3] at hT
    have e3 : X3 27 0 1 = l.length := by rw [hX3, xs_nk (by decide)]; exact e1
    refine ev_ald0 21 dX10_put_20 rfl ?_
    refine ev_dup 22 dX10_put_21 rfl rfl ?_
    refine ev_getfield 25 12 1 fl_X10_15_12 (tr27 hT) rfl dX10_put_22 rfl ?_
    refine tj_iconst 26 dX10_put_25 rfl ?_
    refine tj_iadd 27 dX10_put_26 rfl ?_
    refine tv_puti 30 1 .int fl_X10_15_12 fp_12_1 hT (tv27 hT) (fun _ => rfl) rfl (Nat.le_of_ble_eq_true rfl) rfl rfl (by first | exact TR.rng hT _ _ _ | exact R31_of _ | exact bi_R _ | (constructor <;> omega)) dX10_put_27 rfl (fun h hT => ?_)
    exact ev_vreturn (uq_v hT (by rw [e3, hX3]; exact WT_put hI)) rfl dX10_put_30
set_option maxRecDepth 100000 in
set_option maxHeartbeats 4000000 in
theorem c_X10_putNumber {g : Gt} {α : AL} {ν : Nat → Nat → Bool} {X : XM} {h : AH} {Y : XM} (hT : TR g α ν Y h) {l : List Int} (hI : WT X l Y) {v : Int} (hv : 0 ≤ v ∧ v ≤ 100) (hl : l.length + 3 ≤ 340) : Mu g α ν M_X10_putNumber 1 [.ref (α 27 0), .int (J v)] h (none) (fun Y' => WT X (l ++ numL v) Y') := by
  refine mu_of rfl rfl (ls := [some (.ref (α 27 0)), some (.int (J v))]) rfl (Nat.le_of_ble_eq_true rfl) ?_
  show Ev g M_X10_putNumber 1 0 [some (.ref (α 27 0)), some (.int (J v))] [] h 0 0 (UQ g α ν (none) (fun Y' => WT X (l ++ numL v) Y'))
  refine ev_ild1 1 dX10_putNumber_0 rfl ?_
  refine tj_bipush 3 dX10_putNumber_1 (by decide) rfl ?_
  refine tj_icmp_lt 21 6 dX10_putNumber_3 (by decide) rfl (by first | exact TR.rng hT _ _ _ | exact R31_of _ | exact bi_R _ | (constructor <;> omega)) (by first | exact TR.rng hT _ _ _ | exact R31_of _ | exact bi_R _ | (constructor <;> omega)) (fun c3 => ?_) (fun c3 => ?_)
  · skip
    refine ev_ild1 22 dX10_putNumber_21 rfl ?_
    refine tj_bipush 24 dX10_putNumber_22 (by decide) rfl ?_
    refine tj_icmp_lt 42 27 dX10_putNumber_24 (by decide) rfl (by first | exact TR.rng hT _ _ _ | exact R31_of _ | exact bi_R _ | (constructor <;> omega)) (by first | exact TR.rng hT _ _ _ | exact R31_of _ | exact bi_R _ | (constructor <;> omega)) (fun c24 => ?_) (fun c24 => ?_)
    · skip
      refine ev_ald0 43 dX10_putNumber_42 rfl ?_
      refine tj_bipush 45 dX10_putNumber_43 (by decide) rfl ?_
      refine ev_ild1 46 dX10_putNumber_45 rfl ?_
      refine tj_bipush 48 dX10_putNumber_46 (by decide) rfl ?_
      refine tj_irem 49 dX10_putNumber_48 (by omega) (by omega) rfl ?_
      refine tj_iadd 50 dX10_putNumber_49 rfl ?_
      refine tj_i2c 51 dX10_putNumber_50 (by omega) rfl ?_
      refine tmv_V1 54 12 dX10_putNumber_51 lkv_X10_33 (tr27 hT) rfl rfl (by first | decide | omega) (Nat.le_of_ble_eq_true rfl) (c_X10_put hT hI (by omega) (by first | omega | (simp only [List.length_append, List.length_cons, List.length_nil]; omega))) (fun h X1 hT hP51 => ?_)
      have hI := hP51
      exact ev_vreturn (uq_v hT (by first | (exfalso; omega) | (show WT X (l ++ numL v) _; unfold numL; (first | rw [if_pos (show (100 : Int) ≤ v by omega)] | rw [if_neg (show ¬ (100 : Int) ≤ v by omega)]); (first | rw [if_pos (show (10 : Int) ≤ v by omega)] | rw [if_neg (show ¬ (10 : Int) ≤ v by omega)]); simpa using hI))) rfl dX10_putNumber_54
    · skip
      refine ev_ald0 28 dX10_putNumber_27 rfl ?_
      refine tj_bipush 30 dX10_putNumber_28 (by decide) rfl ?_
      refine ev_ild1 31 dX10_putNumber_30 rfl ?_
      refine tj_bipush 33 dX10_putNumber_31 (by decide) rfl ?_
      refine tj_idiv 34 dX10_putNumber_33 (by omega) (by omega) rfl ?_
      refine tj_bipush 36 dX10_putNumber_34 (by decide) rfl ?_
      refine tj_irem 37 dX10_putNumber_36 (by omega) (by omega) rfl ?_
      refine tj_iadd 38 dX10_putNumber_37 rfl ?_
      refine tj_i2c 39 dX10_putNumber_38 (by omega) rfl ?_
      refine tmv_V1 42 12 dX10_putNumber_39 lkv_X10_33 (tr27 hT) rfl rfl (by first | decide | omega) (Nat.le_of_ble_eq_true rfl) (c_X10_put hT hI (by omega) (by first | omega | (simp only [List.length_append, List.length_cons, List.length_nil]; omega))) (fun h X1 hT hP39 => ?_)
      have hI := hP39
      refine ev_ald0 43 dX10_putNumber_42 rfl ?_
      refine tj_bipush 45 dX10_putNumber_43 (by decide) rfl ?_
      refine ev_ild1 46 dX10_putNumber_45 rfl ?_
      refine tj_bipush 48 dX10_putNumber_46 (by decide) rfl ?_
      refine tj_irem 49 dX10_putNumber_48 (by omega) (by omega) rfl ?_
      refine tj_iadd 50 dX10_putNumber_49 rfl ?_
      refine tj_i2c 51 dX10_putNumber_50 (by omega) rfl ?_
      refine tmv_V1 54 12 dX10_putNumber_51 lkv_X10_33 (tr27 hT) rfl rfl (by first | decide | omega) (Nat.le_of_ble_eq_true rfl) (c_X10_put hT hI (by omega) (by first | omega | (simp only [List.length_append, List.length_cons, List.length_nil]; omega))) (fun h X1 hT hP51 => ?_)
      have hI := hP51
      exact ev_vreturn (uq_v hT (by first | (exfalso; omega) | (show WT X (l ++ numL v) _; unfold numL; (first | rw [if_pos (show (100 : Int) ≤ v by omega)] | rw [if_neg (show ¬ (100 : Int) ≤ v by omega)]); (first | rw [if_pos (show (10 : Int) ≤ v by omega)] | rw [if_neg (show ¬ (10 : Int) ≤ v by omega)]); simpa using hI))) rfl dX10_putNumber_54
  · skip
    refine ev_ald0 7 dX10_putNumber_6 rfl ?_
    refine tj_bipush 9 dX10_putNumber_7 (by decide) rfl ?_
    refine ev_ild1 10 dX10_putNumber_9 rfl ?_
    refine tj_bipush 12 dX10_putNumber_10 (by decide) rfl ?_
    refine tj_idiv 13 dX10_putNumber_12 (by omega) (by omega) rfl ?_
    refine tj_bipush 15 dX10_putNumber_13 (by decide) rfl ?_
    refine tj_irem 16 dX10_putNumber_15 (by omega) (by omega) rfl ?_
    refine tj_iadd 17 dX10_putNumber_16 rfl ?_
    refine tj_i2c 18 dX10_putNumber_17 (by omega) rfl ?_
    refine tmv_V1 21 12 dX10_putNumber_18 lkv_X10_33 (tr27 hT) rfl rfl (by first | decide | omega) (Nat.le_of_ble_eq_true rfl) (c_X10_put hT hI (by omega) (by first | omega | (simp only [List.length_append, List.length_cons, List.length_nil]; omega))) (fun h X1 hT hP18 => ?_)
    have hI := hP18
    refine ev_ild1 22 dX10_putNumber_21 rfl ?_
    refine tj_bipush 24 dX10_putNumber_22 (by decide) rfl ?_
    refine tj_icmp_lt 42 27 dX10_putNumber_24 (by decide) rfl (by first | exact TR.rng hT _ _ _ | exact R31_of _ | exact bi_R _ | (constructor <;> omega)) (by first | exact TR.rng hT _ _ _ | exact R31_of _ | exact bi_R _ | (constructor <;> omega)) (fun c24 => ?_) (fun c24 => ?_)
    · skip
      refine ev_ald0 43 dX10_putNumber_42 rfl ?_
      refine tj_bipush 45 dX10_putNumber_43 (by decide) rfl ?_
      refine ev_ild1 46 dX10_putNumber_45 rfl ?_
      refine tj_bipush 48 dX10_putNumber_46 (by decide) rfl ?_
      refine tj_irem 49 dX10_putNumber_48 (by omega) (by omega) rfl ?_
      refine tj_iadd 50 dX10_putNumber_49 rfl ?_
      refine tj_i2c 51 dX10_putNumber_50 (by omega) rfl ?_
      refine tmv_V1 54 12 dX10_putNumber_51 lkv_X10_33 (tr27 hT) rfl rfl (by first | decide | omega) (Nat.le_of_ble_eq_true rfl) (c_X10_put hT hI (by omega) (by first | omega | (simp only [List.length_append, List.length_cons, List.length_nil]; omega))) (fun h X1 hT hP51 => ?_)
      have hI := hP51
      exact ev_vreturn (uq_v hT (by first | (exfalso; omega) | (show WT X (l ++ numL v) _; unfold numL; (first | rw [if_pos (show (100 : Int) ≤ v by omega)] | rw [if_neg (show ¬ (100 : Int) ≤ v by omega)]); (first | rw [if_pos (show (10 : Int) ≤ v by omega)] | rw [if_neg (show ¬ (10 : Int) ≤ v by omega)]); simpa using hI))) rfl dX10_putNumber_54
    · skip
      refine ev_ald0 28 dX10_putNumber_27 rfl ?_
      refine tj_bipush 30 dX10_putNumber_28 (by decide) rfl ?_
      refine ev_ild1 31 dX10_putNumber_30 rfl ?_
      refine tj_bipush 33 dX10_putNumber_31 (by decide) rfl ?_
      refine tj_idiv 34 dX10_putNumber_33 (by omega) (by omega) rfl ?_
      refine tj_bipush 36 dX10_putNumber_34 (by decide) rfl ?_
      refine tj_irem 37 dX10_putNumber_36 (by omega) (by omega) rfl ?_
      refine tj_iadd 38 dX10_putNumber_37 rfl ?_
      refine tj_i2c 39 dX10_putNumber_38 (by omega) rfl ?_
      refine tmv_V1 42 12 dX10_putNumber_39 lkv_X10_33 (tr27 hT) rfl rfl (by first | decide | omega) (Nat.le_of_ble_eq_true rfl) (c_X10_put hT hI (by omega) (by first | omega | (simp only [List.length_append, List.length_cons, List.length_nil]; omega))) (fun h X1 hT hP39 => ?_)
      have hI := hP39
      refine ev_ald0 43 dX10_putNumber_42 rfl ?_
      refine tj_bipush 45 dX10_putNumber_43 (by decide) rfl ?_
      refine ev_ild1 46 dX10_putNumber_45 rfl ?_
      refine tj_bipush 48 dX10_putNumber_46 (by decide) rfl ?_
      refine tj_irem 49 dX10_putNumber_48 (by omega) (by omega) rfl ?_
      refine tj_iadd 50 dX10_putNumber_49 rfl ?_
      refine tj_i2c 51 dX10_putNumber_50 (by omega) rfl ?_
      refine tmv_V1 54 12 dX10_putNumber_51 lkv_X10_33 (tr27 hT) rfl rfl (by first | decide | omega) (Nat.le_of_ble_eq_true rfl) (c_X10_put hT hI (by omega) (by first | omega | (simp only [List.length_append, List.length_cons, List.length_nil]; omega))) (fun h X1 hT hP51 => ?_)
      have hI := hP51
      exact ev_vreturn (uq_v hT (by first | (exfalso; omega) | (show WT X (l ++ numL v) _; unfold numL; (first | rw [if_pos (show (100 : Int) ≤ v by omega)] | rw [if_neg (show ¬ (100 : Int) ≤ v by omega)]); (first | rw [if_pos (show (10 : Int) ≤ v by omega)] | rw [if_neg (show ¬ (10 : Int) ≤ v by omega)]); simpa using hI))) rfl dX10_putNumber_54
set_option maxRecDepth 100000 in
set_option maxHeartbeats 4000000 in
theorem c_X10_putEntries {g : Gt} {α : AL} {ν : Nat → Nat → Bool} {X : XM} {h : AH} {Y : XM} (hT : TR g α ν Y h) {l : List Int} (hI : WT X l Y) (hW : WX ν X) {s : Nat} (hs0 : (s : Int) < nS X) {c : Nat} (hc : c < 20) (hll : l.length + 13 ≤ 340) : Mu g α ν M_X10_putEntries 2 [.ref (α 27 0), .ref (α 4 s), .int (J (c : Int))] h (none) (fun Y' => WT X (l ++ tl X s c (X 9 s c).toNat) Y') := by
  refine mu_of rfl rfl (ls := [some (.ref (α 27 0)), some (.ref (α 4 s)), some (.int (J (c : Int))), none, none]) rfl (Nat.le_of_ble_eq_true rfl) ?_
  show Ev g M_X10_putEntries 2 0 [some (.ref (α 27 0)), some (.ref (α 4 s)), some (.int (J (c : Int))), none, none] [] h 0 0 (UQ g α ν (none) (fun Y' => WT X (l ++ tl X s c (X 9 s c).toNat) Y'))
  have q9 := wo_nC hW.1
  have q8 := wo_nS hW.1
  have hs := wx_stu hW hs0
  have hl : s < 17 := by omega
  have ht := wo_tri hW.1 s c hs0 (by omega)
  have hs11 : ν 4 ((20 * s + c) / 20) = true := by rw [show (20 * s + c) / 20 = s by omega]; exact hs
  have e6 : Y 6 s c = X 6 s c := by rw [hI.1 6 (by decide) (by decide)]
  have e9 : Y 9 s c = X 9 s c := by rw [hI.1 9 (by decide) (by decide)]
  have e11 : Y 11 (20 * s + c) = X 11 (20 * s + c) := by rw [hI.1 11 (by decide) (by decide)]
  refine ev_ald1 1 dX10_putEntries_0 rfl ?_
  refine ev_getfield 4 10 2 fl_X10_19_10 (tr4 hT (by first | assumption | exact wx_stu hW (by omega) | exact wx_crs hW (by omega) | exact wx_new hW) (by omega)) rfl dX10_putEntries_1 rfl ?_
  refine ev_ild2 5 dX10_putEntries_4 rfl ?_
  refine tv_zald 6 (tr6 hT (by first | assumption | exact wx_stu hW (by omega) | exact wx_crs hW (by omega) | exact wx_new hW) (by omega)) (c) (by omega) (by omega) (by omega) dX10_putEntries_5 rfl ?_
  refine tj_if_eq 15 9 dX10_putEntries_6 (by decide) rfl (by first | exact TR.rng hT _ _ _ | exact R31_of _ | exact bi_R _ | (constructor <;> omega)) (fun c6 => ?_) (fun c6 => ?_)
  · skip
    refine tj_iconst 16 dX10_putEntries_15 rfl ?_
    refine ev_ist3 17 dX10_putEntries_16 rfl (by decide) rfl ?_
    have lp17 : ∀ (n17 : Nat) (k : Nat) (z3 : Int) (o4 : Option Value) (h : AH) (X2 : XM), 4 - k < n17 → ((k : Int) ≤ X 9 s c) → z3 = (k : Int) → TR g α ν X2 h → WT X (l ++ tl X s c k) X2 → Ev g M_X10_putEntries 2 17 [some (.ref (α 27 0)), some (.ref (α 4 s)), some (.int (J (c : Int))), some (.int (J z3)), o4] [] h 0 0 (UQ g α ν (none) (fun Y' => WT X (l ++ tl X s c (X 9 s c).toNat) Y')) := by
      intro n17
      induction n17 with
      | zero => intro k z3 o4 h X2 hm; exact absurd hm (Nat.not_lt_zero _)
      | succ n17 ih17 =>
        intro k z3 o4 h X2 hm17 hk e3 hT hI
        subst e3
        have htn := tl_n X s c k
        have e6 : X2 6 s c = X 6 s c := by rw [hI.1 6 (by decide) (by decide)]
        have e9 : X2 9 s c = X 9 s c := by rw [hI.1 9 (by decide) (by decide)]
        have e11 : X2 11 (20 * s + c) = X 11 (20 * s + c) := by rw [hI.1 11 (by decide) (by decide)]
        refine ev_ild3 18 dX10_putEntries_17 rfl ?_
        refine ev_ald1 19 dX10_putEntries_18 rfl ?_
        refine ev_getfield 22 10 5 fl_X10_25_10 (tr4 hT (by first | assumption | exact wx_stu hW (by omega) | exact wx_crs hW (by omega) | exact wx_new hW) (by omega)) rfl dX10_putEntries_19 rfl ?_
        refine ev_ild2 23 dX10_putEntries_22 rfl ?_
        refine tv_iald 24 (tr9 hT (by first | assumption | exact wx_stu hW (by omega) | exact wx_crs hW (by omega) | exact wx_new hW) (by omega)) (c) (by omega) (by omega) (by omega) dX10_putEntries_23 rfl ?_
        refine tj_icmp_ge 83 27 dX10_putEntries_24 (by decide) rfl (by first | exact TR.rng hT _ _ _ | exact R31_of _ | exact bi_R _ | (constructor <;> omega)) (by first | exact TR.rng hT _ _ _ | exact R31_of _ | exact bi_R _ | (constructor <;> omega)) (fun c24 => ?_) (fun c24 => ?_)
        · skip
          exact ev_vreturn (uq_v hT (by show WT X _ _; rw [show (X 9 s c).toNat = k by omega]; exact hI)) rfl dX10_putEntries_83
        · skip
          have hm := wo_trd hW.1 s c k hs0 (by omega) (by omega)
          refine ev_ild3 28 dX10_putEntries_27 rfl ?_
          refine tj_if_gt 40 31 dX10_putEntries_28 (by decide) rfl (by first | exact TR.rng hT _ _ _ | exact R31_of _ | exact bi_R _ | (constructor <;> omega)) (fun c28 => ?_) (fun c28 => ?_)
          · skip
            have hs1 : 0 < k ∨ X 6 s c ≠ 0 := Or.inl (by omega)
            refine ev_ald0 41 dX10_putEntries_40 rfl ?_
            refine tj_bipush 43 dX10_putEntries_41 (by decide) rfl ?_
            refine tmv_V1 46 12 dX10_putEntries_43 lkv_X10_33 (tr27 hT) rfl rfl (by first | decide | omega) (Nat.le_of_ble_eq_true rfl) (c_X10_put hT hI (by omega) (by first | omega | (simp only [List.length_append, List.length_cons, List.length_nil]; omega))) (fun h X1 hT hP43 => ?_)
            have hI := hP43
            have e6 : X1 6 s c = X 6 s c := by rw [hI.1 6 (by decide) (by decide)]
            have e9 : X1 9 s c = X 9 s c := by rw [hI.1 9 (by decide) (by decide)]
            have e11 : X1 11 (20 * s + c) = X 11 (20 * s + c) := by rw [hI.1 11 (by decide) (by decide)]
            refine ev_ald1 47 dX10_putEntries_46 rfl ?_
            refine ev_getfield 50 10 6 fl_X10_41_10 (tr4 hT (by first | assumption | exact wx_stu hW (by omega) | exact wx_crs hW (by omega) | exact wx_new hW) (by omega)) rfl dX10_putEntries_47 rfl ?_
            refine ev_ild2 51 dX10_putEntries_50 rfl ?_
            refine tv_aald4 52 (tr10 hT (by first | assumption | exact wx_stu hW (by omega) | exact wx_crs hW (by omega) | exact wx_new hW) (by omega)) (c) (by omega) (by omega) (by omega) (if_pos (by omega)) dX10_putEntries_51 rfl ?_
            refine ev_ild3 53 dX10_putEntries_52 rfl ?_
            refine tv_iald 54 (tr11 hT (by first | assumption | exact wx_stu hW (by omega) | exact wx_crs hW (by omega) | exact wx_new hW) (by omega)) (k) (by omega) (by omega) (by omega) dX10_putEntries_53 rfl ?_
            rw [e11]
            refine ev_ist4 56 dX10_putEntries_54 rfl (by decide) rfl ?_
            refine ev_ild4 58 dX10_putEntries_56 rfl ?_
            refine tj_iconst 59 dX10_putEntries_58 rfl ?_
            refine tj_icmp_ne 71 62 dX10_putEntries_59 (by decide) rfl (by first | exact TR.rng hT _ _ _ | exact R31_of _ | exact bi_R _ | (constructor <;> omega)) (by first | exact TR.rng hT _ _ _ | exact R31_of _ | exact bi_R _ | (constructor <;> omega)) (fun c59 => ?_) (fun c59 => ?_)
            · skip
              have hs2n : ¬ X 11 (20 * s + c) k = -1 := by omega
              refine ev_ald0 72 dX10_putEntries_71 rfl ?_
              refine ev_ild4 74 dX10_putEntries_72 rfl ?_
              refine tmv_V1 77 12 dX10_putEntries_74 lkv_X10_29 (tr27 hT) rfl rfl (by first | decide | omega) (Nat.le_of_ble_eq_true rfl) (c_X10_putNumber hT hI (by omega) (by first | omega | (simp only [List.length_append, List.length_cons, List.length_nil]; omega))) (fun h X1 hT hP74 => ?_)
              have hI := hP74
              have e6 : X1 6 s c = X 6 s c := by rw [hI.1 6 (by decide) (by decide)]
              have e9 : X1 9 s c = X 9 s c := by rw [hI.1 9 (by decide) (by decide)]
              have e11 : X1 11 (20 * s + c) = X 11 (20 * s + c) := by rw [hI.1 11 (by decide) (by decide)]
              refine tj_inc3 80 dX10_putEntries_77 rfl (by decide) rfl ?_
              refine ev_goto 17 dX10_putEntries_80 (by decide) ?_
              exact ih17 (k + 1) _ _ _ _ (by omega) (by first | omega | assumption | omega) (by first | rfl | omega | (omega)) hT (by first | assumption | (first | (unfold tl; first | (rw [if_pos (show X 6 s c ≠ 0 by omega)]; exact hI) | (rw [if_neg (show ¬ X 6 s c ≠ 0 by omega), List.append_nil]; exact hI)) | (rw [tl]; (first | rw [if_pos hs1] | rw [if_neg hs0n]); (first | rw [if_pos hs2] | rw [if_neg hs2n]); simpa using hI)))
            · skip
              have hs2 : X 11 (20 * s + c) k = -1 := by omega
              refine ev_ald0 63 dX10_putEntries_62 rfl ?_
              refine tj_bipush 65 dX10_putEntries_63 (by decide) rfl ?_
              refine tmv_V1 68 12 dX10_putEntries_65 lkv_X10_33 (tr27 hT) rfl rfl (by first | decide | omega) (Nat.le_of_ble_eq_true rfl) (c_X10_put hT hI (by omega) (by first | omega | (simp only [List.length_append, List.length_cons, List.length_nil]; omega))) (fun h X1 hT hP65 => ?_)
              have hI := hP65
              have e6 : X1 6 s c = X 6 s c := by rw [hI.1 6 (by decide) (by decide)]
              have e9 : X1 9 s c = X 9 s c := by rw [hI.1 9 (by decide) (by decide)]
              have e11 : X1 11 (20 * s + c) = X 11 (20 * s + c) := by rw [hI.1 11 (by decide) (by decide)]
              refine ev_goto 77 dX10_putEntries_68 (by decide) ?_
              refine tj_inc3 80 dX10_putEntries_77 rfl (by decide) rfl ?_
              refine ev_goto 17 dX10_putEntries_80 (by decide) ?_
              exact ih17 (k + 1) _ _ _ _ (by omega) (by first | omega | assumption | omega) (by first | rfl | omega | (omega)) hT (by first | assumption | (first | (unfold tl; first | (rw [if_pos (show X 6 s c ≠ 0 by omega)]; exact hI) | (rw [if_neg (show ¬ X 6 s c ≠ 0 by omega), List.append_nil]; exact hI)) | (rw [tl]; (first | rw [if_pos hs1] | rw [if_neg hs0n]); (first | rw [if_pos hs2] | rw [if_neg hs2n]); simpa using hI)))
          · skip
            refine ev_ald1 32 dX10_putEntries_31 rfl ?_
            refine ev_getfield 35 10 2 fl_X10_19_10 (tr4 hT (by first | assumption | exact wx_stu hW (by omega) | exact wx_crs hW (by omega) | exact wx_new hW) (by omega)) rfl dX10_putEntries_32 rfl ?_
            refine ev_ild2 36 dX10_putEntries_35 rfl ?_
            refine tv_zald 37 (tr6 hT (by first | assumption | exact wx_stu hW (by omega) | exact wx_crs hW (by omega) | exact wx_new hW) (by omega)) (c) (by omega) (by omega) (by omega) dX10_putEntries_36 rfl ?_
            refine tj_if_eq 46 40 dX10_putEntries_37 (by decide) rfl (by first | exact TR.rng hT _ _ _ | exact R31_of _ | exact bi_R _ | (constructor <;> omega)) (fun c37 => ?_) (fun c37 => ?_)
            · skip
              have hs0n : ¬ (0 < k ∨ X 6 s c ≠ 0) := by omega
              refine ev_ald1 47 dX10_putEntries_46 rfl ?_
              refine ev_getfield 50 10 6 fl_X10_41_10 (tr4 hT (by first | assumption | exact wx_stu hW (by omega) | exact wx_crs hW (by omega) | exact wx_new hW) (by omega)) rfl dX10_putEntries_47 rfl ?_
              refine ev_ild2 51 dX10_putEntries_50 rfl ?_
              refine tv_aald4 52 (tr10 hT (by first | assumption | exact wx_stu hW (by omega) | exact wx_crs hW (by omega) | exact wx_new hW) (by omega)) (c) (by omega) (by omega) (by omega) (if_pos (by omega)) dX10_putEntries_51 rfl ?_
              refine ev_ild3 53 dX10_putEntries_52 rfl ?_
              refine tv_iald 54 (tr11 hT (by first | assumption | exact wx_stu hW (by omega) | exact wx_crs hW (by omega) | exact wx_new hW) (by omega)) (k) (by omega) (by omega) (by omega) dX10_putEntries_53 rfl ?_
              rw [e11]
              refine ev_ist4 56 dX10_putEntries_54 rfl (by decide) rfl ?_
              refine ev_ild4 58 dX10_putEntries_56 rfl ?_
              refine tj_iconst 59 dX10_putEntries_58 rfl ?_
              refine tj_icmp_ne 71 62 dX10_putEntries_59 (by decide) rfl (by first | exact TR.rng hT _ _ _ | exact R31_of _ | exact bi_R _ | (constructor <;> omega)) (by first | exact TR.rng hT _ _ _ | exact R31_of _ | exact bi_R _ | (constructor <;> omega)) (fun c59 => ?_) (fun c59 => ?_)
              · skip
                have hs2n : ¬ X 11 (20 * s + c) k = -1 := by omega
                refine ev_ald0 72 dX10_putEntries_71 rfl ?_
                refine ev_ild4 74 dX10_putEntries_72 rfl ?_
                refine tmv_V1 77 12 dX10_putEntries_74 lkv_X10_29 (tr27 hT) rfl rfl (by first | decide | omega) (Nat.le_of_ble_eq_true rfl) (c_X10_putNumber hT hI (by omega) (by first | omega | (simp only [List.length_append, List.length_cons, List.length_nil]; omega))) (fun h X1 hT hP74 => ?_)
                have hI := hP74
                have e6 : X1 6 s c = X 6 s c := by rw [hI.1 6 (by decide) (by decide)]
                have e9 : X1 9 s c = X 9 s c := by rw [hI.1 9 (by decide) (by decide)]
                have e11 : X1 11 (20 * s + c) = X 11 (20 * s + c) := by rw [hI.1 11 (by decide) (by decide)]
                refine tj_inc3 80 dX10_putEntries_77 rfl (by decide) rfl ?_
                refine ev_goto 17 dX10_putEntries_80 (by decide) ?_
                exact ih17 (k + 1) _ _ _ _ (by omega) (by first | omega | assumption | omega) (by first | rfl | omega | (omega)) hT (by first | assumption | (first | (unfold tl; first | (rw [if_pos (show X 6 s c ≠ 0 by omega)]; exact hI) | (rw [if_neg (show ¬ X 6 s c ≠ 0 by omega), List.append_nil]; exact hI)) | (rw [tl]; (first | rw [if_pos hs1] | rw [if_neg hs0n]); (first | rw [if_pos hs2] | rw [if_neg hs2n]); simpa using hI)))
              · skip
                have hs2 : X 11 (20 * s + c) k = -1 := by omega
                refine ev_ald0 63 dX10_putEntries_62 rfl ?_
                refine tj_bipush 65 dX10_putEntries_63 (by decide) rfl ?_
                refine tmv_V1 68 12 dX10_putEntries_65 lkv_X10_33 (tr27 hT) rfl rfl (by first | decide | omega) (Nat.le_of_ble_eq_true rfl) (c_X10_put hT hI (by omega) (by first | omega | (simp only [List.length_append, List.length_cons, List.length_nil]; omega))) (fun h X1 hT hP65 => ?_)
                have hI := hP65
                have e6 : X1 6 s c = X 6 s c := by rw [hI.1 6 (by decide) (by decide)]
                have e9 : X1 9 s c = X 9 s c := by rw [hI.1 9 (by decide) (by decide)]
                have e11 : X1 11 (20 * s + c) = X 11 (20 * s + c) := by rw [hI.1 11 (by decide) (by decide)]
                refine ev_goto 77 dX10_putEntries_68 (by decide) ?_
                refine tj_inc3 80 dX10_putEntries_77 rfl (by decide) rfl ?_
                refine ev_goto 17 dX10_putEntries_80 (by decide) ?_
                exact ih17 (k + 1) _ _ _ _ (by omega) (by first | omega | assumption | omega) (by first | rfl | omega | (omega)) hT (by first | assumption | (first | (unfold tl; first | (rw [if_pos (show X 6 s c ≠ 0 by omega)]; exact hI) | (rw [if_neg (show ¬ X 6 s c ≠ 0 by omega), List.append_nil]; exact hI)) | (rw [tl]; (first | rw [if_pos hs1] | rw [if_neg hs0n]); (first | rw [if_pos hs2] | rw [if_neg hs2n]); simpa using hI)))
            · skip
              have hs1 : 0 < k ∨ X 6 s c ≠ 0 := Or.inr (by omega)
              refine ev_ald0 41 dX10_putEntries_40 rfl ?_
              refine tj_bipush 43 dX10_putEntries_41 (by decide) rfl ?_
              refine tmv_V1 46 12 dX10_putEntries_43 lkv_X10_33 (tr27 hT) rfl rfl (by first | decide | omega) (Nat.le_of_ble_eq_true rfl) (c_X10_put hT hI (by omega) (by first | omega | (simp only [List.length_append, List.length_cons, List.length_nil]; omega))) (fun h X1 hT hP43 => ?_)
              have hI := hP43
              have e6 : X1 6 s c = X 6 s c := by rw [hI.1 6 (by decide) (by decide)]
              have e9 : X1 9 s c = X 9 s c := by rw [hI.1 9 (by decide) (by decide)]
              have e11 : X1 11 (20 * s + c) = X 11 (20 * s + c) := by rw [hI.1 11 (by decide) (by decide)]
              refine ev_ald1 47 dX10_putEntries_46 rfl ?_
              refine ev_getfield 50 10 6 fl_X10_41_10 (tr4 hT (by first | assumption | exact wx_stu hW (by omega) | exact wx_crs hW (by omega) | exact wx_new hW) (by omega)) rfl dX10_putEntries_47 rfl ?_
              refine ev_ild2 51 dX10_putEntries_50 rfl ?_
              refine tv_aald4 52 (tr10 hT (by first | assumption | exact wx_stu hW (by omega) | exact wx_crs hW (by omega) | exact wx_new hW) (by omega)) (c) (by omega) (by omega) (by omega) (if_pos (by omega)) dX10_putEntries_51 rfl ?_
              refine ev_ild3 53 dX10_putEntries_52 rfl ?_
              refine tv_iald 54 (tr11 hT (by first | assumption | exact wx_stu hW (by omega) | exact wx_crs hW (by omega) | exact wx_new hW) (by omega)) (k) (by omega) (by omega) (by omega) dX10_putEntries_53 rfl ?_
              rw [e11]
              refine ev_ist4 56 dX10_putEntries_54 rfl (by decide) rfl ?_
              refine ev_ild4 58 dX10_putEntries_56 rfl ?_
              refine tj_iconst 59 dX10_putEntries_58 rfl ?_
              refine tj_icmp_ne 71 62 dX10_putEntries_59 (by decide) rfl (by first | exact TR.rng hT _ _ _ | exact R31_of _ | exact bi_R _ | (constructor <;> omega)) (by first | exact TR.rng hT _ _ _ | exact R31_of _ | exact bi_R _ | (constructor <;> omega)) (fun c59 => ?_) (fun c59 => ?_)
              · skip
                have hs2n : ¬ X 11 (20 * s + c) k = -1 := by omega
                refine ev_ald0 72 dX10_putEntries_71 rfl ?_
                refine ev_ild4 74 dX10_putEntries_72 rfl ?_
                refine tmv_V1 77 12 dX10_putEntries_74 lkv_X10_29 (tr27 hT) rfl rfl (by first | decide | omega) (Nat.le_of_ble_eq_true rfl) (c_X10_putNumber hT hI (by omega) (by first | omega | (simp only [List.length_append, List.length_cons, List.length_nil]; omega))) (fun h X1 hT hP74 => ?_)
                have hI := hP74
                have e6 : X1 6 s c = X 6 s c := by rw [hI.1 6 (by decide) (by decide)]
                have e9 : X1 9 s c = X 9 s c := by rw [hI.1 9 (by decide) (by decide)]
                have e11 : X1 11 (20 * s + c) = X 11 (20 * s + c) := by rw [hI.1 11 (by decide) (by decide)]
                refine tj_inc3 80 dX10_putEntries_77 rfl (by decide) rfl ?_
                refine ev_goto 17 dX10_putEntries_80 (by decide) ?_
                exact ih17 (k + 1) _ _ _ _ (by omega) (by first | omega | assumption | omega) (by first | rfl | omega | (omega)) hT (by first | assumption | (first | (unfold tl; first | (rw [if_pos (show X 6 s c ≠ 0 by omega)]; exact hI) | (rw [if_neg (show ¬ X 6 s c ≠ 0 by omega), List.append_nil]; exact hI)) | (rw [tl]; (first | rw [if_pos hs1] | rw [if_neg hs0n]); (first | rw [if_pos hs2] | rw [if_neg hs2n]); simpa using hI)))
              · skip
                have hs2 : X 11 (20 * s + c) k = -1 := by omega
                refine ev_ald0 63 dX10_putEntries_62 rfl ?_
                refine tj_bipush 65 dX10_putEntries_63 (by decide) rfl ?_
                refine tmv_V1 68 12 dX10_putEntries_65 lkv_X10_33 (tr27 hT) rfl rfl (by first | decide | omega) (Nat.le_of_ble_eq_true rfl) (c_X10_put hT hI (by omega) (by first | omega | (simp only [List.length_append, List.length_cons, List.length_nil]; omega))) (fun h X1 hT hP65 => ?_)
                have hI := hP65
                have e6 : X1 6 s c = X 6 s c := by rw [hI.1 6 (by decide) (by decide)]
                have e9 : X1 9 s c = X 9 s c := by rw [hI.1 9 (by decide) (by decide)]
                have e11 : X1 11 (20 * s + c) = X 11 (20 * s + c) := by rw [hI.1 11 (by decide) (by decide)]
                refine ev_goto 77 dX10_putEntries_68 (by decide) ?_
                refine tj_inc3 80 dX10_putEntries_77 rfl (by decide) rfl ?_
                refine ev_goto 17 dX10_putEntries_80 (by decide) ?_
                exact ih17 (k + 1) _ _ _ _ (by omega) (by first | omega | assumption | omega) (by first | rfl | omega | (omega)) hT (by first | assumption | (first | (unfold tl; first | (rw [if_pos (show X 6 s c ≠ 0 by omega)]; exact hI) | (rw [if_neg (show ¬ X 6 s c ≠ 0 by omega), List.append_nil]; exact hI)) | (rw [tl]; (first | rw [if_pos hs1] | rw [if_neg hs0n]); (first | rw [if_pos hs2] | rw [if_neg hs2n]); simpa using hI)))
    exact lp17 _ (0) _ _ _ _ (Nat.lt_succ_self _) (by first | omega | assumption | omega) (by first | rfl | omega | (omega)) hT (by first | assumption | (first | (unfold tl; first | (rw [if_pos (show X 6 s c ≠ 0 by omega)]; exact hI) | (rw [if_neg (show ¬ X 6 s c ≠ 0 by omega), List.append_nil]; exact hI)) | (rw [tl]; (first | rw [if_pos hs1] | rw [if_neg hs0n]); (first | rw [if_pos hs2] | rw [if_neg hs2n]); simpa using hI)))
  · skip
    refine ev_ald0 10 dX10_putEntries_9 rfl ?_
    refine tj_bipush 12 dX10_putEntries_10 (by decide) rfl ?_
    refine tmv_V1 15 12 dX10_putEntries_12 lkv_X10_33 (tr27 hT) rfl rfl (by first | decide | omega) (Nat.le_of_ble_eq_true rfl) (c_X10_put hT hI (by omega) (by first | omega | (simp only [List.length_append, List.length_cons, List.length_nil]; omega))) (fun h X1 hT hP12 => ?_)
    have hI := hP12
    have e6 : X1 6 s c = X 6 s c := by rw [hI.1 6 (by decide) (by decide)]
    have e9 : X1 9 s c = X 9 s c := by rw [hI.1 9 (by decide) (by decide)]
    have e11 : X1 11 (20 * s + c) = X 11 (20 * s + c) := by rw [hI.1 11 (by decide) (by decide)]
    refine tj_iconst 16 dX10_putEntries_15 rfl ?_
    refine ev_ist3 17 dX10_putEntries_16 rfl (by decide) rfl ?_
    have lp17 : ∀ (n17 : Nat) (k : Nat) (z3 : Int) (o4 : Option Value) (h : AH) (X2 : XM), 4 - k < n17 → ((k : Int) ≤ X 9 s c) → z3 = (k : Int) → TR g α ν X2 h → WT X (l ++ tl X s c k) X2 → Ev g M_X10_putEntries 2 17 [some (.ref (α 27 0)), some (.ref (α 4 s)), some (.int (J (c : Int))), some (.int (J z3)), o4] [] h 0 0 (UQ g α ν (none) (fun Y' => WT X (l ++ tl X s c (X 9 s c).toNat) Y')) := by
      intro n17
      induction n17 with
      | zero => intro k z3 o4 h X2 hm; exact absurd hm (Nat.not_lt_zero _)
      | succ n17 ih17 =>
        intro k z3 o4 h X2 hm17 hk e3 hT hI
        subst e3
        have htn := tl_n X s c k
        have e6 : X2 6 s c = X 6 s c := by rw [hI.1 6 (by decide) (by decide)]
        have e9 : X2 9 s c = X 9 s c := by rw [hI.1 9 (by decide) (by decide)]
        have e11 : X2 11 (20 * s + c) = X 11 (20 * s + c) := by rw [hI.1 11 (by decide) (by decide)]
        refine ev_ild3 18 dX10_putEntries_17 rfl ?_
        refine ev_ald1 19 dX10_putEntries_18 rfl ?_
        refine ev_getfield 22 10 5 fl_X10_25_10 (tr4 hT (by first | assumption | exact wx_stu hW (by omega) | exact wx_crs hW (by omega) | exact wx_new hW) (by omega)) rfl dX10_putEntries_19 rfl ?_
        refine ev_ild2 23 dX10_putEntries_22 rfl ?_
        refine tv_iald 24 (tr9 hT (by first | assumption | exact wx_stu hW (by omega) | exact wx_crs hW (by omega) | exact wx_new hW) (by omega)) (c) (by omega) (by omega) (by omega) dX10_putEntries_23 rfl ?_
        refine tj_icmp_ge 83 27 dX10_putEntries_24 (by decide) rfl (by first | exact TR.rng hT _ _ _ | exact R31_of _ | exact bi_R _ | (constructor <;> omega)) (by first | exact TR.rng hT _ _ _ | exact R31_of _ | exact bi_R _ | (constructor <;> omega)) (fun c24 => ?_) (fun c24 => ?_)
        · skip
          exact ev_vreturn (uq_v hT (by show WT X _ _; rw [show (X 9 s c).toNat = k by omega]; exact hI)) rfl dX10_putEntries_83
        · skip
          have hm := wo_trd hW.1 s c k hs0 (by omega) (by omega)
          refine ev_ild3 28 dX10_putEntries_27 rfl ?_
          refine tj_if_gt 40 31 dX10_putEntries_28 (by decide) rfl (by first | exact TR.rng hT _ _ _ | exact R31_of _ | exact bi_R _ | (constructor <;> omega)) (fun c28 => ?_) (fun c28 => ?_)
          · skip
            have hs1 : 0 < k ∨ X 6 s c ≠ 0 := Or.inl (by omega)
            refine ev_ald0 41 dX10_putEntries_40 rfl ?_
            refine tj_bipush 43 dX10_putEntries_41 (by decide) rfl ?_
            refine tmv_V1 46 12 dX10_putEntries_43 lkv_X10_33 (tr27 hT) rfl rfl (by first | decide | omega) (Nat.le_of_ble_eq_true rfl) (c_X10_put hT hI (by omega) (by first | omega | (simp only [List.length_append, List.length_cons, List.length_nil]; omega))) (fun h X1 hT hP43 => ?_)
            have hI := hP43
            have e6 : X1 6 s c = X 6 s c := by rw [hI.1 6 (by decide) (by decide)]
            have e9 : X1 9 s c = X 9 s c := by rw [hI.1 9 (by decide) (by decide)]
            have e11 : X1 11 (20 * s + c) = X 11 (20 * s + c) := by rw [hI.1 11 (by decide) (by decide)]
            refine ev_ald1 47 dX10_putEntries_46 rfl ?_
            refine ev_getfield 50 10 6 fl_X10_41_10 (tr4 hT (by first | assumption | exact wx_stu hW (by omega) | exact wx_crs hW (by omega) | exact wx_new hW) (by omega)) rfl dX10_putEntries_47 rfl ?_
            refine ev_ild2 51 dX10_putEntries_50 rfl ?_
            refine tv_aald4 52 (tr10 hT (by first | assumption | exact wx_stu hW (by omega) | exact wx_crs hW (by omega) | exact wx_new hW) (by omega)) (c) (by omega) (by omega) (by omega) (if_pos (by omega)) dX10_putEntries_51 rfl ?_
            refine ev_ild3 53 dX10_putEntries_52 rfl ?_
            refine tv_iald 54 (tr11 hT (by first | assumption | exact wx_stu hW (by omega) | exact wx_crs hW (by omega) | exact wx_new hW) (by omega)) (k) (by omega) (by omega) (by omega) dX10_putEntries_53 rfl ?_
            rw [e11]
            refine ev_ist4 56 dX10_putEntries_54 rfl (by decide) rfl ?_
            refine ev_ild4 58 dX10_putEntries_56 rfl ?_
            refine tj_iconst 59 dX10_putEntries_58 rfl ?_
            refine tj_icmp_ne 71 62 dX10_putEntries_59 (by decide) rfl (by first | exact TR.rng hT _ _ _ | exact R31_of _ | exact bi_R _ | (constructor <;> omega)) (by first | exact TR.rng hT _ _ _ | exact R31_of _ | exact bi_R _ | (constructor <;> omega)) (fun c59 => ?_) (fun c59 => ?_)
            · skip
              have hs2n : ¬ X 11 (20 * s + c) k = -1 := by omega
              refine ev_ald0 72 dX10_putEntries_71 rfl ?_
              refine ev_ild4 74 dX10_putEntries_72 rfl ?_
              refine tmv_V1 77 12 dX10_putEntries_74 lkv_X10_29 (tr27 hT) rfl rfl (by first | decide | omega) (Nat.le_of_ble_eq_true rfl) (c_X10_putNumber hT hI (by omega) (by first | omega | (simp only [List.length_append, List.length_cons, List.length_nil]; omega))) (fun h X1 hT hP74 => ?_)
              have hI := hP74
              have e6 : X1 6 s c = X 6 s c := by rw [hI.1 6 (by decide) (by decide)]
              have e9 : X1 9 s c = X 9 s c := by rw [hI.1 9 (by decide) (by decide)]
              have e11 : X1 11 (20 * s + c) = X 11 (20 * s + c) := by rw [hI.1 11 (by decide) (by decide)]
              refine tj_inc3 80 dX10_putEntries_77 rfl (by decide) rfl ?_
              refine ev_goto 17 dX10_putEntries_80 (by decide) ?_
              exact ih17 (k + 1) _ _ _ _ (by omega) (by first | omega | assumption | omega) (by first | rfl | omega | (omega)) hT (by first | assumption | (first | (unfold tl; first | (rw [if_pos (show X 6 s c ≠ 0 by omega)]; exact hI) | (rw [if_neg (show ¬ X 6 s c ≠ 0 by omega), List.append_nil]; exact hI)) | (rw [tl]; (first | rw [if_pos hs1] | rw [if_neg hs0n]); (first | rw [if_pos hs2] | rw [if_neg hs2n]); simpa using hI)))
            · skip
              have hs2 : X 11 (20 * s + c) k = -1 := by omega
              refine ev_ald0 63 dX10_putEntries_62 rfl ?_
              refine tj_bipush 65 dX10_putEntries_63 (by decide) rfl ?_
              refine tmv_V1 68 12 dX10_putEntries_65 lkv_X10_33 (tr27 hT) rfl rfl (by first | decide | omega) (Nat.le_of_ble_eq_true rfl) (c_X10_put hT hI (by omega) (by first | omega | (simp only [List.length_append, List.length_cons, List.length_nil]; omega))) (fun h X1 hT hP65 => ?_)
              have hI := hP65
              have e6 : X1 6 s c = X 6 s c := by rw [hI.1 6 (by decide) (by decide)]
              have e9 : X1 9 s c = X 9 s c := by rw [hI.1 9 (by decide) (by decide)]
              have e11 : X1 11 (20 * s + c) = X 11 (20 * s + c) := by rw [hI.1 11 (by decide) (by decide)]
              refine ev_goto 77 dX10_putEntries_68 (by decide) ?_
              refine tj_inc3 80 dX10_putEntries_77 rfl (by decide) rfl ?_
              refine ev_goto 17 dX10_putEntries_80 (by decide) ?_
              exact ih17 (k + 1) _ _ _ _ (by omega) (by first | omega | assumption | omega) (by first | rfl | omega | (omega)) hT (by first | assumption | (first | (unfold tl; first | (rw [if_pos (show X 6 s c ≠ 0 by omega)]; exact hI) | (rw [if_neg (show ¬ X 6 s c ≠ 0 by omega), List.append_nil]; exact hI)) | (rw [tl]; (first | rw [if_pos hs1] | rw [if_neg hs0n]); (first | rw [if_pos hs2] | rw [if_neg hs2n]); simpa using hI)))
          · skip
            refine ev_ald1 32 dX10_putEntries_31 rfl ?_
            refine ev_getfield 35 10 2 fl_X10_19_10 (tr4 hT (by first | assumption | exact wx_stu hW (by omega) | exact wx_crs hW (by omega) | exact wx_new hW) (by omega)) rfl dX10_putEntries_32 rfl ?_
            refine ev_ild2 36 dX10_putEntries_35 rfl ?_
            refine tv_zald 37 (tr6 hT (by first | assumption | exact wx_stu hW (by omega) | exact wx_crs hW (by omega) | exact wx_new hW) (by omega)) (c) (by omega) (by omega) (by omega) dX10_putEntries_36 rfl ?_
            refine tj_if_eq 46 40 dX10_putEntries_37 (by decide) rfl (by first | exact TR.rng hT _ _ _ | exact R31_of _ | exact bi_R _ | (constructor <;> omega)) (fun c37 => ?_) (fun c37 => ?_)
            · skip
              have hs0n : ¬ (0 < k ∨ X 6 s c ≠ 0) := by omega
              refine ev_ald1 47 dX10_putEntries_46 rfl ?_
              refine ev_getfield 50 10 6 fl_X10_41_10 (tr4 hT (by first | assumption | exact wx_stu hW (by omega) | exact wx_crs hW (by omega) | exact wx_new hW) (by omega)) rfl dX10_putEntries_47 rfl ?_
              refine ev_ild2 51 dX10_putEntries_50 rfl ?_
              refine tv_aald4 52 (tr10 hT (by first | assumption | exact wx_stu hW (by omega) | exact wx_crs hW (by omega) | exact wx_new hW) (by omega)) (c) (by omega) (by omega) (by omega) (if_pos (by omega)) dX10_putEntries_51 rfl ?_
              refine ev_ild3 53 dX10_putEntries_52 rfl ?_
              refine tv_iald 54 (tr11 hT (by first | assumption | exact wx_stu hW (by omega) | exact wx_crs hW (by omega) | exact wx_new hW) (by omega)) (k) (by omega) (by omega) (by omega) dX10_putEntries_53 rfl ?_
              rw [e11]
              refine ev_ist4 56 dX10_putEntries_54 rfl (by decide) rfl ?_
              refine ev_ild4 58 dX10_putEntries_56 rfl ?_
              refine tj_iconst 59 dX10_putEntries_58 rfl ?_
              refine tj_icmp_ne 71 62 dX10_putEntries_59 (by decide) rfl (by first | exact TR.rng hT _ _ _ | exact R31_of _ | exact bi_R _ | (constructor <;> omega)) (by first | exact TR.rng hT _ _ _ | exact R31_of _ | exact bi_R _ | (constructor <;> omega)) (fun c59 => ?_) (fun c59 => ?_)
              · skip
                have hs2n : ¬ X 11 (20 * s + c) k = -1 := by omega
                refine ev_ald0 72 dX10_putEntries_71 rfl ?_
                refine ev_ild4 74 dX10_putEntries_72 rfl ?_
                refine tmv_V1 77 12 dX10_putEntries_74 lkv_X10_29 (tr27 hT) rfl rfl (by first | decide | omega) (Nat.le_of_ble_eq_true rfl) (c_X10_putNumber hT hI (by omega) (by first | omega | (simp only [List.length_append, List.length_cons, List.length_nil]; omega))) (fun h X1 hT hP74 => ?_)
                have hI := hP74
                have e6 : X1 6 s c = X 6 s c := by rw [hI.1 6 (by decide) (by decide)]
                have e9 : X1 9 s c = X 9 s c := by rw [hI.1 9 (by decide) (by decide)]
                have e11 : X1 11 (20 * s + c) = X 11 (20 * s + c) := by rw [hI.1 11 (by decide) (by decide)]
                refine tj_inc3 80 dX10_putEntries_77 rfl (by decide) rfl ?_
                refine ev_goto 17 dX10_putEntries_80 (by decide) ?_
                exact ih17 (k + 1) _ _ _ _ (by omega) (by first | omega | assumption | omega) (by first | rfl | omega | (omega)) hT (by first | assumption | (first | (unfold tl; first | (rw [if_pos (show X 6 s c ≠ 0 by omega)]; exact hI) | (rw [if_neg (show ¬ X 6 s c ≠ 0 by omega), List.append_nil]; exact hI)) | (rw [tl]; (first | rw [if_pos hs1] | rw [if_neg hs0n]); (first | rw [if_pos hs2] | rw [if_neg hs2n]); simpa using hI)))
              · skip
                have hs2 : X 11 (20 * s + c) k = -1 := by omega
                refine ev_ald0 63 dX10_putEntries_62 rfl ?_
                refine tj_bipush 65 dX10_putEntries_63 (by decide) rfl ?_
                refine tmv_V1 68 12 dX10_putEntries_65 lkv_X10_33 (tr27 hT) rfl rfl (by first | decide | omega) (Nat.le_of_ble_eq_true rfl) (c_X10_put hT hI (by omega) (by first | omega | (simp only [List.length_append, List.length_cons, List.length_nil]; omega))) (fun h X1 hT hP65 => ?_)
                have hI := hP65
                have e6 : X1 6 s c = X 6 s c := by rw [hI.1 6 (by decide) (by decide)]
                have e9 : X1 9 s c = X 9 s c := by rw [hI.1 9 (by decide) (by decide)]
                have e11 : X1 11 (20 * s + c) = X 11 (20 * s + c) := by rw [hI.1 11 (by decide) (by decide)]
                refine ev_goto 77 dX10_putEntries_68 (by decide) ?_
                refine tj_inc3 80 dX10_putEntries_77 rfl (by decide) rfl ?_
                refine ev_goto 17 dX10_putEntries_80 (by decide) ?_
                exact ih17 (k + 1) _ _ _ _ (by omega) (by first | omega | assumption | omega) (by first | rfl | omega | (omega)) hT (by first | assumption | (first | (unfold tl; first | (rw [if_pos (show X 6 s c ≠ 0 by omega)]; exact hI) | (rw [if_neg (show ¬ X 6 s c ≠ 0 by omega), List.append_nil]; exact hI)) | (rw [tl]; (first | rw [if_pos hs1] | rw [if_neg hs0n]); (first | rw [if_pos hs2] | rw [if_neg hs2n]); simpa using hI)))
            · skip
              have hs1 : 0 < k ∨ X 6 s c ≠ 0 := Or.inr (by omega)
              refine ev_ald0 41 dX10_putEntries_40 rfl ?_
              refine tj_bipush 43 dX10_putEntries_41 (by decide) rfl ?_
              refine tmv_V1 46 12 dX10_putEntries_43 lkv_X10_33 (tr27 hT) rfl rfl (by first | decide | omega) (Nat.le_of_ble_eq_true rfl) (c_X10_put hT hI (by omega) (by first | omega | (simp only [List.length_append, List.length_cons, List.length_nil]; omega))) (fun h X1 hT hP43 => ?_)
              have hI := hP43
              have e6 : X1 6 s c = X 6 s c := by rw [hI.1 6 (by decide) (by decide)]
              have e9 : X1 9 s c = X 9 s c := by rw [hI.1 9 (by decide) (by decide)]
              have e11 : X1 11 (20 * s + c) = X 11 (20 * s + c) := by rw [hI.1 11 (by decide) (by decide)]
              refine ev_ald1 47 dX10_putEntries_46 rfl ?_
              refine ev_getfield 50 10 6 fl_X10_41_10 (tr4 hT (by first | assumption | exact wx_stu hW (by omega) | exact wx_crs hW (by omega) | exact wx_new hW) (by omega)) rfl dX10_putEntries_47 rfl ?_
              refine ev_ild2 51 dX10_putEntries_50 rfl ?_
              refine tv_aald4 52 (tr10 hT (by first | assumption | exact wx_stu hW (by omega) | exact wx_crs hW (by omega) | exact wx_new hW) (by omega)) (c) (by omega) (by omega) (by omega) (if_pos (by omega)) dX10_putEntries_51 rfl ?_
              refine ev_ild3 53 dX10_putEntries_52 rfl ?_
              refine tv_iald 54 (tr11 hT (by first | assumption | exact wx_stu hW (by omega) | exact wx_crs hW (by omega) | exact wx_new hW) (by omega)) (k) (by omega) (by omega) (by omega) dX10_putEntries_53 rfl ?_
              rw [e11]
              refine ev_ist4 56 dX10_putEntries_54 rfl (by decide) rfl ?_
              refine ev_ild4 58 dX10_putEntries_56 rfl ?_
              refine tj_iconst 59 dX10_putEntries_58 rfl ?_
              refine tj_icmp_ne 71 62 dX10_putEntries_59 (by decide) rfl (by first | exact TR.rng hT _ _ _ | exact R31_of _ | exact bi_R _ | (constructor <;> omega)) (by first | exact TR.rng hT _ _ _ | exact R31_of _ | exact bi_R _ | (constructor <;> omega)) (fun c59 => ?_) (fun c59 => ?_)
              · skip
                have hs2n : ¬ X 11 (20 * s + c) k = -1 := by omega
                refine ev_ald0 72 dX10_putEntries_71 rfl ?_
                refine ev_ild4 74 dX10_putEntries_72 rfl ?_
                refine tmv_V1 77 12 dX10_putEntries_74 lkv_X10_29 (tr27 hT) rfl rfl (by first | decide | omega) (Nat.le_of_ble_eq_true rfl) (c_X10_putNumber hT hI (by omega) (by first | omega | (simp only [List.length_append, List.length_cons, List.length_nil]; omega))) (fun h X1 hT hP74 => ?_)
                have hI := hP74
                have e6 : X1 6 s c = X 6 s c := by rw [hI.1 6 (by decide) (by decide)]
                have e9 : X1 9 s c = X 9 s c := by rw [hI.1 9 (by decide) (by decide)]
                have e11 : X1 11 (20 * s + c) = X 11 (20 * s + c) := by rw [hI.1 11 (by decide) (by decide)]
                refine tj_inc3 80 dX10_putEntries_77 rfl (by decide) rfl ?_
                refine ev_goto 17 dX10_putEntries_80 (by decide) ?_
                exact ih17 (k + 1) _ _ _ _ (by omega) (by first | omega | assumption | omega) (by first | rfl | omega | (omega)) hT (by first | assumption | (first | (unfold tl; first | (rw [if_pos (show X 6 s c ≠ 0 by omega)]; exact hI) | (rw [if_neg (show ¬ X 6 s c ≠ 0 by omega), List.append_nil]; exact hI)) | (rw [tl]; (first | rw [if_pos hs1] | rw [if_neg hs0n]); (first | rw [if_pos hs2] | rw [if_neg hs2n]); simpa using hI)))
              · skip
                have hs2 : X 11 (20 * s + c) k = -1 := by omega
                refine ev_ald0 63 dX10_putEntries_62 rfl ?_
                refine tj_bipush 65 dX10_putEntries_63 (by decide) rfl ?_
                refine tmv_V1 68 12 dX10_putEntries_65 lkv_X10_33 (tr27 hT) rfl rfl (by first | decide | omega) (Nat.le_of_ble_eq_true rfl) (c_X10_put hT hI (by omega) (by first | omega | (simp only [List.length_append, List.length_cons, List.length_nil]; omega))) (fun h X1 hT hP65 => ?_)
                have hI := hP65
                have e6 : X1 6 s c = X 6 s c := by rw [hI.1 6 (by decide) (by decide)]
                have e9 : X1 9 s c = X 9 s c := by rw [hI.1 9 (by decide) (by decide)]
                have e11 : X1 11 (20 * s + c) = X 11 (20 * s + c) := by rw [hI.1 11 (by decide) (by decide)]
                refine ev_goto 77 dX10_putEntries_68 (by decide) ?_
                refine tj_inc3 80 dX10_putEntries_77 rfl (by decide) rfl ?_
                refine ev_goto 17 dX10_putEntries_80 (by decide) ?_
                exact ih17 (k + 1) _ _ _ _ (by omega) (by first | omega | assumption | omega) (by first | rfl | omega | (omega)) hT (by first | assumption | (first | (unfold tl; first | (rw [if_pos (show X 6 s c ≠ 0 by omega)]; exact hI) | (rw [if_neg (show ¬ X 6 s c ≠ 0 by omega), List.append_nil]; exact hI)) | (rw [tl]; (first | rw [if_pos hs1] | rw [if_neg hs0n]); (first | rw [if_pos hs2] | rw [if_neg hs2n]); simpa using hI)))
    exact lp17 _ (0) _ _ _ _ (Nat.lt_succ_self _) (by first | omega | assumption | omega) (by first | rfl | omega | (omega)) hT (by first | assumption | (first | (unfold tl; first | (rw [if_pos (show X 6 s c ≠ 0 by omega)]; exact hI) | (rw [if_neg (show ¬ X 6 s c ≠ 0 by omega), List.append_nil]; exact hI)) | (rw [tl]; (first | rw [if_pos hs1] | rw [if_neg hs0n]); (first | rw [if_pos hs2] | rw [if_neg hs2n]); simpa using hI)))
set_option maxRecDepth 100000 in
set_option maxHeartbeats 4000000 in
theorem c_X10_write {g : Gt} {α : AL} {ν : Nat → Nat → Bool} {X : XM} {h : AH} (hT : TR g α ν X h) (hW : WX ν X) {s : Nat} (hs0 : (s : Int) < nS X) : Mu g α ν M_X10_write 3 [.ref (α 27 0), .ref (α 4 s), .int (J (nC X))] h (none) (fun Y' => WT X (allL X s (nC X).toNat) Y') := by
  refine mu_of rfl rfl (ls := [some (.ref (α 27 0)), some (.ref (α 4 s)), some (.int (J (nC X))), none]) rfl (Nat.le_of_ble_eq_true rfl) ?_
  show Ev g M_X10_write 3 0 [some (.ref (α 27 0)), some (.ref (α 4 s)), some (.int (J (nC X))), none] [] h 0 0 (UQ g α ν (none) (fun Y' => WT X (allL X s (nC X).toNat) Y'))
  have q9 := wo_nC hW.1
  have q8 := wo_nS hW.1
  have hs := wx_stu hW hs0
  have hl : s < 17 := by omega
  refine ev_ald0 1 dX10_write_0 rfl ?_
  refine tj_iconst 2 dX10_write_1 rfl ?_
  refine tv_puti 5 1 .int fl_X10_15_12 fp_12_1 hT (tv27 hT) (fun _ => rfl) rfl (Nat.le_of_ble_eq_true rfl) rfl rfl (by first | exact TR.rng hT _ _ _ | exact R31_of _ | exact bi_R _ | (constructor <;> omega)) dX10_write_2 rfl (fun h hT => ?_)
  refine tj_iconst 6 dX10_write_5 rfl ?_
  refine ev_ist3 7 dX10_write_6 rfl (by decide) rfl ?_
  have lp7 : ∀ (n7 : Nat) (c : Nat) (z3 : Int)  (h : AH) (X2 : XM), 21 - c < n7 → ((c : Int) ≤ nC X) → z3 = (c : Int) → TR g α ν X2 h → WT X (allL X s c) X2 → Ev g M_X10_write 3 7 [some (.ref (α 27 0)), some (.ref (α 4 s)), some (.int (J (nC X))), some (.int (J z3))] [] h 0 0 (UQ g α ν (none) (fun Y' => WT X (allL X s (nC X).toNat) Y')) := by
    intro n7
    induction n7 with
    | zero => intro c z3 h X2 hm; exact absurd hm (Nat.not_lt_zero _)
    | succ n7 ih7 =>
      intro c z3 h X2 hm7 hc e3 hT hI
      subst e3
      have han := allL_n hW.1 hs0 c hc
      have e6 : X2 6 s c = X 6 s c := by rw [hI.1 6 (by decide) (by decide)]
      have e9 : X2 9 s c = X 9 s c := by rw [hI.1 9 (by decide) (by decide)]
      refine ev_ild3 8 dX10_write_7 rfl ?_
      refine ev_ild2 9 dX10_write_8 rfl ?_
      refine tj_icmp_ge 59 12 dX10_write_9 (by decide) rfl (by first | exact TR.rng hT _ _ _ | exact R31_of _ | exact bi_R _ | (constructor <;> omega)) (by first | exact TR.rng hT _ _ _ | exact R31_of _ | exact bi_R _ | (constructor <;> omega)) (fun c9 => ?_) (fun c9 => ?_)
      · skip
        exact ev_vreturn (uq_v hT (by show WT X _ _; rw [show (nC X).toNat = c by omega]; exact hI)) rfl dX10_write_59
      · skip
        have ht := wo_tri hW.1 s c hs0 (by omega)
        have htn := tl_n X s c (X 9 s c).toNat
        have hnn := numL_n (c : Int)
        have hn2 : (numL (c : Int)).length ≤ 2 := by unfold numL; rw [if_neg (by omega)]; split <;> simp
        refine ev_ald1 13 dX10_write_12 rfl ?_
        refine ev_getfield 16 10 2 fl_X10_19_10 (tr4 hT (by first | assumption | exact wx_stu hW (by omega) | exact wx_crs hW (by omega) | exact wx_new hW) (by omega)) rfl dX10_write_13 rfl ?_
        refine ev_ild3 17 dX10_write_16 rfl ?_
        refine tv_zald 18 (tr6 hT (by first | assumption | exact wx_stu hW (by omega) | exact wx_crs hW (by omega) | exact wx_new hW) (by omega)) (c) (by omega) (by omega) (by omega) dX10_write_17 rfl ?_
        refine tj_if_ne 30 21 dX10_write_18 (by decide) rfl (by first | exact TR.rng hT _ _ _ | exact R31_of _ | exact bi_R _ | (constructor <;> omega)) (fun c18 => ?_) (fun c18 => ?_)
        · skip
          refine ev_ald0 31 dX10_write_30 rfl ?_
          refine ev_ild3 32 dX10_write_31 rfl ?_
          refine tmv_V1 35 12 dX10_write_32 lkv_X10_29 (tr27 hT) rfl rfl (by first | decide | omega) (Nat.le_of_ble_eq_true rfl) (c_X10_putNumber hT hI (by omega) (by first | omega | (simp only [List.length_append, List.length_cons, List.length_nil]; omega))) (fun h X1 hT hP32 => ?_)
          have hI := hP32
          refine ev_ald0 36 dX10_write_35 rfl ?_
          refine tj_bipush 38 dX10_write_36 (by decide) rfl ?_
          refine tmv_V1 41 12 dX10_write_38 lkv_X10_33 (tr27 hT) rfl rfl (by first | decide | omega) (Nat.le_of_ble_eq_true rfl) (c_X10_put hT hI (by omega) (by first | omega | (simp only [List.length_append, List.length_cons, List.length_nil]; omega))) (fun h X1 hT hP38 => ?_)
          have hI := hP38
          refine ev_ald0 42 dX10_write_41 rfl ?_
          refine ev_ald1 43 dX10_write_42 rfl ?_
          refine ev_ild3 44 dX10_write_43 rfl ?_
          refine tmv_V2 47 12 dX10_write_44 lkv_X10_37 (tr27 hT) rfl rfl (by first | decide | omega) (Nat.le_of_ble_eq_true rfl) (c_X10_putEntries hT hI hW hs0 (by omega) (by first | omega | (simp only [List.length_append, List.length_cons, List.length_nil]; omega))) (fun h X1 hT hP44 => ?_)
          have hI := hP44
          refine ev_ald0 48 dX10_write_47 rfl ?_
          refine tj_bipush 50 dX10_write_48 (by decide) rfl ?_
          refine tmv_V1 53 12 dX10_write_50 lkv_X10_33 (tr27 hT) rfl rfl (by first | decide | omega) (Nat.le_of_ble_eq_true rfl) (c_X10_put hT hI (by omega) (by first | omega | (simp only [List.length_append, List.length_cons, List.length_nil]; omega))) (fun h X1 hT hP50 => ?_)
          have hI := hP50
          refine tj_inc3 56 dX10_write_53 rfl (by decide) rfl ?_
          refine ev_goto 7 dX10_write_56 (by decide) ?_
          exact ih7 (c + 1) _ _ _ (by omega) (by first | omega | assumption | omega) (by first | rfl | omega | (omega)) hT (by first | assumption | (first | exact WT_0 X | (rw [allL]; (first | (rw [if_pos (show X 6 s c ≠ 0 ∨ 0 < X 9 s c by omega)]; unfold crsL; simpa using hI) | (rw [if_neg (show ¬ (X 6 s c ≠ 0 ∨ 0 < X 9 s c) by omega), List.append_nil]; exact hI)))))
        · skip
          refine ev_ald1 22 dX10_write_21 rfl ?_
          refine ev_getfield 25 10 5 fl_X10_25_10 (tr4 hT (by first | assumption | exact wx_stu hW (by omega) | exact wx_crs hW (by omega) | exact wx_new hW) (by omega)) rfl dX10_write_22 rfl ?_
          refine ev_ild3 26 dX10_write_25 rfl ?_
          refine tv_iald 27 (tr9 hT (by first | assumption | exact wx_stu hW (by omega) | exact wx_crs hW (by omega) | exact wx_new hW) (by omega)) (c) (by omega) (by omega) (by omega) dX10_write_26 rfl ?_
          refine tj_if_le 53 30 dX10_write_27 (by decide) rfl (by first | exact TR.rng hT _ _ _ | exact R31_of _ | exact bi_R _ | (constructor <;> omega)) (fun c27 => ?_) (fun c27 => ?_)
          · skip
            refine tj_inc3 56 dX10_write_53 rfl (by decide) rfl ?_
            refine ev_goto 7 dX10_write_56 (by decide) ?_
            exact ih7 (c + 1) _ _ _ (by omega) (by first | omega | assumption | omega) (by first | rfl | omega | (omega)) hT (by first | assumption | (first | exact WT_0 X | (rw [allL]; (first | (rw [if_pos (show X 6 s c ≠ 0 ∨ 0 < X 9 s c by omega)]; unfold crsL; simpa using hI) | (rw [if_neg (show ¬ (X 6 s c ≠ 0 ∨ 0 < X 9 s c) by omega), List.append_nil]; exact hI)))))
          · skip
            refine ev_ald0 31 dX10_write_30 rfl ?_
            refine ev_ild3 32 dX10_write_31 rfl ?_
            refine tmv_V1 35 12 dX10_write_32 lkv_X10_29 (tr27 hT) rfl rfl (by first | decide | omega) (Nat.le_of_ble_eq_true rfl) (c_X10_putNumber hT hI (by omega) (by first | omega | (simp only [List.length_append, List.length_cons, List.length_nil]; omega))) (fun h X1 hT hP32 => ?_)
            have hI := hP32
            refine ev_ald0 36 dX10_write_35 rfl ?_
            refine tj_bipush 38 dX10_write_36 (by decide) rfl ?_
            refine tmv_V1 41 12 dX10_write_38 lkv_X10_33 (tr27 hT) rfl rfl (by first | decide | omega) (Nat.le_of_ble_eq_true rfl) (c_X10_put hT hI (by omega) (by first | omega | (simp only [List.length_append, List.length_cons, List.length_nil]; omega))) (fun h X1 hT hP38 => ?_)
            have hI := hP38
            refine ev_ald0 42 dX10_write_41 rfl ?_
            refine ev_ald1 43 dX10_write_42 rfl ?_
            refine ev_ild3 44 dX10_write_43 rfl ?_
            refine tmv_V2 47 12 dX10_write_44 lkv_X10_37 (tr27 hT) rfl rfl (by first | decide | omega) (Nat.le_of_ble_eq_true rfl) (c_X10_putEntries hT hI hW hs0 (by omega) (by first | omega | (simp only [List.length_append, List.length_cons, List.length_nil]; omega))) (fun h X1 hT hP44 => ?_)
            have hI := hP44
            refine ev_ald0 48 dX10_write_47 rfl ?_
            refine tj_bipush 50 dX10_write_48 (by decide) rfl ?_
            refine tmv_V1 53 12 dX10_write_50 lkv_X10_33 (tr27 hT) rfl rfl (by first | decide | omega) (Nat.le_of_ble_eq_true rfl) (c_X10_put hT hI (by omega) (by first | omega | (simp only [List.length_append, List.length_cons, List.length_nil]; omega))) (fun h X1 hT hP50 => ?_)
            have hI := hP50
            refine tj_inc3 56 dX10_write_53 rfl (by decide) rfl ?_
            refine ev_goto 7 dX10_write_56 (by decide) ?_
            exact ih7 (c + 1) _ _ _ (by omega) (by first | omega | assumption | omega) (by first | rfl | omega | (omega)) hT (by first | assumption | (first | exact WT_0 X | (rw [allL]; (first | (rw [if_pos (show X 6 s c ≠ 0 ∨ 0 < X 9 s c by omega)]; unfold crsL; simpa using hI) | (rw [if_neg (show ¬ (X 6 s c ≠ 0 ∨ 0 < X 9 s c) by omega), List.append_nil]; exact hI)))))
  exact lp7 _ (0) _ _ _ (Nat.lt_succ_self _) (by first | omega | assumption | omega) (by first | rfl | omega | (omega)) hT (by first | assumption | (first | exact WT_0 X | (rw [allL]; (first | (rw [if_pos (show X 6 s c ≠ 0 ∨ 0 < X 9 s c by omega)]; unfold crsL; simpa using hI) | (rw [if_neg (show ¬ (X 6 s c ≠ 0 ∨ 0 < X 9 s c) by omega), List.append_nil]; exact hI)))))
