/-! A COURSE, A STUDENT, A RULE, A FORMULA COME -/
theorem gk_12 {k i n : Nat} (e : gk k i = (12, n)) : (k = 12 ∧ i = n) ∨ (k = 13 ∧ i = n) ∨ (k = 1 ∧ i = 4 + n) := by
  unfold gk at e
  (repeat' split at e) <;> (simp only [Prod.mk.injEq] at e <;> omega)
theorem gk_4 {k i n : Nat} (e : gk k i = (4, n)) : (4 ≤ k ∧ k ≤ 10 ∧ i = n) ∨ (k = 11 ∧ i / 20 = n) := by
  unfold gk at e
  (repeat' split at e) <;> (simp only [Prod.mk.injEq] at e <;> omega)
theorem gk_16 {k i n : Nat} (e : gk k i = (16, n)) : k = 16 ∧ i = n := by
  unfold gk at e
  (repeat' split at e) <;> (simp only [Prod.mk.injEq] at e <;> omega)
section AL9
variable {g : Gt} {α : AL} {ν : Nat → Nat → Bool} {X : XM} {h h' : AH}
theorem TR.up {q : Nat} {c : AC} (hT : TR g α ν X h) (hq : h q = none) : TR g α ν X (hup h q c) :=
  ⟨fun k i hv => by
    have := hT.1 k i hv
    rw [hup_ne (fun z => by rw [z, hq] at this; cases this.1)]
    exact this, hT.2.1, hT.2.2.1, hT.2.2.2⟩
def xC (p2 p3 : Int) : XM := fun k _ j => if k = 12 then (if j = 1 then p2 else if j = 2 then p3 else if j = 5 then -1 else 0) else 0
theorem gk_12n (n : Nat) : gk 12 n = (12, n) ∧ gk 13 n = (12, n) ∧ gk 1 (4 + n) = (12, n) := by
  refine ⟨rfl, rfl, ?_⟩
  have e : ¬ 4 + n < 4 := by omega
  simp [gk, e]
theorem tn_course {n q a1 a2 : Nat} {p2 p3 : Int} (hT : TR g α ν X h) (hC : CLO ν X) (hν : ν 12 n = false) (F : FR g h h' [(q, .inr (5, [.int (J (n : Int)), .int (J p2), .int (J p3), .ref a1, .ref a2, .int (J (-1))])), (a1, zi 4), (a2, .inr (2, [.int (J 0), .ref (gE g), .int 0]))]) (r2 : R31 p2) (r3 : R31 p3) : ∃ α', TR g α' (nuG ν (12, n)) (xG X (12, n) (xC p2 p3)) h' ∧ α' 12 n = q ∧ ∀ k i, gk k i ≠ (12, n) → α' k i = α k i := by
  obtain ⟨e12, e13, e1⟩ := gk_12n n
  refine ⟨alG α (12, n) _ (fun k _ => if k = 12 then 0 else if k = 13 then 1 else 2), TR.grow hT hC F hν (fun k i hv e => ?_) (fun k i k' i' _ e _ e' he => ?_) (fun k i j _ => ?_), ?_, fun k i hn => alG_ne hn⟩
  · rcases gk_12 e with ⟨rfl, rfl⟩ | ⟨rfl, rfl⟩ | ⟨rfl, rfl⟩
    · refine ⟨q, congrArg some (Prod.ext rfl ?_)⟩
      show _ = ck12 g _ i (xC p2 p3 12 i)
      unfold ck12 alG
      rw [if_pos e13, if_pos e1]
      rfl
    · exact ⟨a1, congrArg some (Prod.ext rfl (zi_x (fun j => rfl)))⟩
    · exact ⟨a2, congrArg some (Prod.ext rfl rfl)⟩
  · rcases gk_12 e with ⟨rfl, rfl⟩ | ⟨rfl, rfl⟩ | ⟨rfl, rfl⟩ <;> rcases gk_12 e' with ⟨rfl, rfl⟩ | ⟨rfl, rfl⟩ | ⟨rfl, rfl⟩ <;> first | exact ⟨rfl, rfl⟩ | exact absurd he (by decide)
  · unfold xC
    by_cases c : k = 12
    · rw [if_pos c]
      by_cases c1 : j = 1
      · rw [if_pos c1]; exact r2
      · rw [if_neg c1]
        by_cases c2 : j = 2
        · rw [if_pos c2]; exact r3
        · rw [if_neg c2]
          by_cases c5 : j = 5
          · rw [if_pos c5]; exact ⟨by decide, by decide⟩
          · rw [if_neg c5]; exact R31_0
    · rw [if_neg c]; exact R31_0
  · unfold alG
    rw [if_pos e12]
    rfl
theorem tn_formula {n q : Nat} {c : AC} {y : Nat → Int} (hT : TR g α ν X h) (hC : CLO ν X) (hν : ν 16 n = false) (F : FR g h h' [(q, c)]) (hc : c = fcell y) (hr : ∀ j, R31 (y j)) : ∃ α', TR g α' (nuG ν (16, n)) (xG X (16, n) (fun _ _ => y)) h' ∧ α' 16 n = q ∧ ∀ k i, gk k i ≠ (16, n) → α' k i = α k i := by
  have e16 : gk 16 n = (16, n) := rfl
  refine ⟨alG α (16, n) _ (fun _ _ => 0), TR.grow hT hC F hν (fun k i hv e => ?_) (fun k i k' i' _ e _ e' he => ?_) (fun k i j _ => hr j), ?_, fun k i hn => alG_ne hn⟩
  · obtain ⟨rfl, rfl⟩ := gk_16 e
    exact ⟨q, congrArg some (Prod.ext rfl hc)⟩
  · obtain ⟨rfl, rfl⟩ := gk_16 e
    obtain ⟨rfl, rfl⟩ := gk_16 e'
    exact ⟨rfl, rfl⟩
  · unfold alG
    rw [if_pos e16]
    rfl
def xS (p1 : Int) : XM := fun k _ j => if k = 4 then (if j = 0 then p1 else 0) else if k = 7 ∨ k = 8 then (if j < 20 then -1 else 0) else 0
theorem gk_4n (s : Nat) : ∀ k, 4 ≤ k → k ≤ 10 → gk k s = (4, s) := fun k h1 h2 => by
  unfold gk
  rw [if_neg (by omega), if_neg (by omega), if_pos ⟨h1, h2⟩]
theorem gk_11n (s j : Nat) (hj : j < 20) : gk 11 (20 * s + j) = (4, s) := by
  have e : (20 * s + j) / 20 = s := by omega
  simp [gk, e]
abbrev stZ (q a1 a2 a3 a4 a5 a6 : Nat) (r : Nat → Nat) (p1 : Int) : List (Nat × AC) := (q, .inr (10, [.int (J p1), .ref a1, .ref a2, .ref a3, .ref a4, .ref a5, .ref a6])) :: (a1, zz 20) :: (a2, zz 20) :: (a3, fi 20 (-1)) :: (a4, fi 20 (-1)) :: (a5, zi 20) :: (a6, rowsC 20 r) :: (List.range 20).map (fun i => (r i, zi 3))
theorem stZ_row {q a1 a2 a3 a4 a5 a6 : Nat} {r : Nat → Nat} {p1 : Int} {j : Nat} (hj : j < 20) : (stZ q a1 a2 a3 a4 a5 a6 r p1)[7 + j]? = some (r j, zi 3) := by
  have e : stZ q a1 a2 a3 a4 a5 a6 r p1 = [(q, .inr (10, [.int (J p1), .ref a1, .ref a2, .ref a3, .ref a4, .ref a5, .ref a6])), (a1, zz 20), (a2, zz 20), (a3, fi 20 (-1)), (a4, fi 20 (-1)), (a5, zi 20), (a6, rowsC 20 r)] ++ (List.range 20).map (fun i => (r i, zi 3)) := rfl
  rw [e, List.getElem?_append_right (by show 7 ≤ 7 + j; omega), show 7 + j - List.length [(q, (.inr (10, [.int (J p1), .ref a1, .ref a2, .ref a3, .ref a4, .ref a5, .ref a6]) : AC)), (a1, zz 20), (a2, zz 20), (a3, fi 20 (-1)), (a4, fi 20 (-1)), (a5, zi 20), (a6, rowsC 20 r)] = j from Nat.add_sub_cancel_left 7 j, List.getElem?_map, List.getElem?_range hj]
  rfl
theorem tn_student {n q a1 a2 a3 a4 a5 a6 : Nat} {r : Nat → Nat} {p1 : Int} (hT : TR g α ν X h) (hC : CLO ν X) (hν : ν 4 n = false) (F : FR g h h' (stZ q a1 a2 a3 a4 a5 a6 r p1)) (r1 : R31 p1) : ∃ α', TR g α' (nuG ν (4, n)) (xG X (4, n) (xS p1)) h' ∧ α' 4 n = q ∧ ∀ k i, gk k i ≠ (4, n) → α' k i = α k i := by
  have e4 := gk_4n n
  refine ⟨alG α (4, n) _ (fun k i => if k = 11 then 7 + (i - 20 * n) else k - 4), TR.grow hT hC F hν (fun k i hv e => ?_) (fun k i k' i' _ e _ e' he => ?_) (fun k i j _ => ?_), ?_, fun k i hn => alG_ne hn⟩
  · rcases gk_4 e with ⟨h1, h2, rfl⟩ | ⟨rfl, h2⟩
    · rcases (show k = 4 ∨ k = 5 ∨ k = 6 ∨ k = 7 ∨ k = 8 ∨ k = 9 ∨ k = 10 by omega) with rfl | rfl | rfl | rfl | rfl | rfl | rfl
      · refine ⟨q, congrArg some (Prod.ext rfl ?_)⟩
        show _ = ck4 g _ i (xS p1 4 i)
        unfold ck4 alG
        rw [if_pos (e4 5 (by decide) (by decide)), if_pos (e4 6 (by decide) (by decide)), if_pos (e4 7 (by decide) (by decide)), if_pos (e4 8 (by decide) (by decide)), if_pos (e4 9 (by decide) (by decide)), if_pos (e4 10 (by decide) (by decide))]
        rfl
      · exact ⟨a1, congrArg some (Prod.ext rfl (zz_x (fun j => rfl)))⟩
      · exact ⟨a2, congrArg some (Prod.ext rfl (zz_x (fun j => rfl)))⟩
      · exact ⟨a3, congrArg some (Prod.ext rfl (fi_x (fun j => rfl)))⟩
      · exact ⟨a4, congrArg some (Prod.ext rfl (fi_x (fun j => rfl)))⟩
      · exact ⟨a5, congrArg some (Prod.ext rfl (zi_x (fun j => rfl)))⟩
      · refine ⟨a6, congrArg some (Prod.ext rfl ?_)⟩
        show _ = ck10 g _ i (xS p1 10 i)
        unfold ck10
        refine congrArg (fun f => (Sum.inl (4, 20, .inr (.inr (.inr (.inr f)))) : AC)) (funext fun j => ?_)
        by_cases c : j < 20
        · rw [if_pos c, if_pos c]
          unfold alG
          rw [if_pos (gk_11n i j c)]
          show _ = some ((List.map (·.1) (stZ q a1 a2 a3 a4 a5 a6 r p1)).getD (if 11 = 11 then 7 + (20 * i + j - 20 * i) else 11 - 4) 0)
          rw [if_pos rfl, show 7 + (20 * i + j - 20 * i) = 7 + j by omega, getD_of (stZ_row c)]
        · rw [if_neg c, if_neg c]
    · obtain ⟨j, hj, rfl⟩ : ∃ j, j < 20 ∧ i = 20 * n + j := ⟨i - 20 * n, by omega, by omega⟩
      refine ⟨r j, ?_⟩
      rw [if_pos rfl, show 7 + (20 * n + j - 20 * n) = 7 + j by omega, stZ_row hj]
      exact congrArg some (Prod.ext rfl (zi_x (fun j => rfl)))
  · have h1 := gk_4 e
    have h2 := gk_4 e'
    by_cases c : k = 11
    · by_cases c' : k' = 11
      · simp only [c, c', if_true] at he
        omega
      · simp only [c, c', if_true, if_false] at he
        omega
    · by_cases c' : k' = 11
      · simp only [c, c', if_true, if_false] at he
        omega
      · simp only [c, c', if_false] at he
        omega
  · unfold xS
    by_cases c : k = 4
    · rw [if_pos c]
      by_cases c1 : j = 0
      · rw [if_pos c1]; exact r1
      · rw [if_neg c1]; exact R31_0
    · rw [if_neg c]
      by_cases c2 : k = 7 ∨ k = 8
      · rw [if_pos c2]
        by_cases c3 : j < 20
        · rw [if_pos c3]; exact ⟨by decide, by decide⟩
        · rw [if_neg c3]; exact R31_0
      · rw [if_neg c2]; exact R31_0
  · unfold alG
    rw [if_pos (e4 4 (by decide) (by decide))]
    rfl
end AL9
