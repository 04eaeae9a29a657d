/-! WHAT STANDS BEHIND A CALL -/
/-- the newcomer takes nothing -/
def FAR (X : XM) : Prop := ∀ c, c < 20 → X 5 16 c = 0
/-- what a call that makes nothing keeps -/
def KQ (X X' : XM) : Prop := KP X X' ∧ (∀ kk, 31 ≤ kk → X' kk = X kk) ∧ X' 5 16 = X 5 16 ∧ X' 0 0 6 = X 0 0 6
theorem KQ.refl (X : XM) : KQ X X := ⟨KP.refl X, fun _ _ => rfl, rfl, rfl⟩
theorem KQ.trans {X Y Z : XM} (a : KQ X Y) (b : KQ Y Z) : KQ X Z := ⟨a.1.trans b.1, fun kk h => (b.2.1 kk h).trans (a.2.1 kk h), b.2.2.1.trans a.2.2.1, b.2.2.2.trans a.2.2.2⟩
theorem kq_xs {X : XM} {k i j : Nat} {v : Int} (h1 : k ≠ 1) (h2 : k ≠ 2) (h3 : k < 31) (h5 : k = 5 → i ≠ 16) (h0 : k = 0 → j ≠ 6) : KQ X (xs X k i j v) := by
  refine ⟨KP.xs h1 h2, fun kk h => xs_nk (by omega), ?_, ?_⟩
  · by_cases q : k = 5
    · subst q; exact xs_ne (fun z => h5 rfl z.2.symm)
    · rw [xs_nk (fun z => q z.symm)]
  · rw [xs_all, if_neg (fun z => h0 z.1.symm z.2.2.symm)]
theorem KQ.k5 {X X' : XM} (h1 : X' 1 = X 1) (h2 : X' 2 = X 2) (h0 : X' 0 = X 0) (hk : ∀ kk, 31 ≤ kk → X' kk = X kk) (h5 : X' 5 16 = X 5 16) : KQ X X' := ⟨KP.same h1 h2, hk, h5, by rw [h0]⟩
theorem kq_lv {X : XM} {c k : Nat} (h : 0 < X 1 (4 + c) 2) : KQ X (lv X c k) := ⟨KP.lv h, fun kk q => lv_k (by omega) (by omega), by rw [lv_k (by decide) (by decide)], by rw [lv_k (by decide) (by decide)]⟩
theorem kq_seat {X : XM} (hO : WO X) {c k : Nat} (hc : (c : Int) < nC X) (hk : (k : Int) < X 1 (4 + c) 2) : KQ X (seat X c k) := by
  have q := wo_wA hO c k hc hk
  have qs := wo_nS hO
  have m1 : xs X 5 (X 2 (4 + c) (k + 1)).toNat c 1 1 = X 1 := xs_nk (by decide)
  unfold seat
  exact (kq_xs (by decide) (by decide) (by decide) (fun _ => by omega) (fun z => by cases z)).trans (kq_lv (by rw [m1]; omega))
theorem kq_gvN : ∀ (n : Nat) {X : XM}, WO X → KQ X (gvN n X)
  | 0, X, _ => KQ.refl X
  | n + 1, X, hO => by
    rw [gvN_c]
    cases e : fstW X with
    | none => exact KQ.refl X
    | some p =>
      obtain ⟨h1, h2, -⟩ := fst_lt hO e
      exact (kq_seat hO h1 h2).trans (kq_gvN n (wo_seat hO h1 h2))
theorem kq_gv {X : XM} (hO : WO X) : KQ X (gv X) := by
  unfold gv
  split
  · exact KQ.refl X
  · exact kq_gvN _ hO
theorem kq_em {X : XM} {c n : Nat} : KQ X (em X (4 + c) n) := by
  refine ⟨⟨fun i hi => by rw [em_ne (by omega)], fun i => ?_, fun i => ?_, fun i j => ?_⟩, fun kk q => em_k (by omega) (by omega), by rw [em_k (by decide) (by decide)], by rw [em_k (by decide) (by decide)]⟩
  · by_cases q : i = 4 + c
    · subst q
      show (if 1 = 1 ∧ 4 + c = 4 + c then (fun j => if j = 0 then wr (X 1 (4 + c) 0 + 1) else if j = 2 then 0 else X 1 (4 + c) j) else _) 1 = _
      rw [if_pos ⟨rfl, rfl⟩]
      rfl
    · rw [em_ne q]
  · by_cases q : i = 4 + c
    · subst q
      unfold em
      rw [if_neg (by omega), if_pos ⟨rfl, rfl⟩]
      rfl
    · rw [em_ne q]
  · by_cases q : i = 4 + c
    · subst q
      unfold em
      rw [if_neg (by omega), if_pos ⟨rfl, rfl⟩]
      by_cases z : 1 ≤ j + 1 ∧ j + 1 ≤ n
      · exact Or.inl (by show (if 1 ≤ j + 1 ∧ j + 1 ≤ n then (-1 : Int) else _) < 0; rw [if_pos z]; decide)
      · exact Or.inr ⟨j, by show (if 1 ≤ j + 1 ∧ j + 1 ≤ n then (-1 : Int) else _) = _; rw [if_neg z]⟩
    · rw [em_ne q]; exact Or.inr ⟨j, rfl⟩
theorem kq_emA (X : XM) : ∀ n, KQ X (emA X n)
  | 0 => KQ.refl X
  | n + 1 => (kq_emA X n).trans kq_em
theorem kq_dyB (X : XM) : KQ X (dyB X) := by
  unfold dyB
  split
  · exact (kq_emA X _).trans (kq_xs (by decide) (by decide) (by decide) (fun z => by cases z) (fun _ => by decide))
  · exact kq_xs (by decide) (by decide) (by decide) (fun z => by cases z) (fun _ => by decide)
theorem kq_psN {X : XM} (hO : WO X) : ∀ n : Nat, (n : Int) ≤ 30 - X 0 0 5 → KQ X (psN X n)
  | 0, _ => KQ.refl X
  | n + 1, hn => by
    have h1 := wo_psN hO n (by omega)
    exact (kq_psN hO n (by omega)).trans ((kq_dyB _).trans (kq_gv (wo_dyB h1 (by rw [psN_day]; omega))))
theorem kq_mv {X : XM} {s c : Nat} : KQ X (mv X s c) := KQ.k5 (mv_k (by decide) (by decide)) (mv_k (by decide) (by decide)) (mv_k (by decide) (by decide)) (fun kk q => mv_k (by omega) (by omega)) (by rw [mv_k (by decide) (by decide)])
theorem kq_eO {X : XM} (hO : WO X) {s c : Nat} (hs : (s : Int) < nS X) (ht : TC X s (c : Int)) : KQ X (eO X s (c : Int)) := by
  have qs := wo_nS hO
  exact KQ.k5 (eO_k (by decide) (by decide) (by decide) (by decide)) (eO_k (by decide) (by decide) (by decide) (by decide)) (eO_k (by decide) (by decide) (by decide) (by decide)) (fun kk q => eO_k (by omega) (by omega) (by omega) (by omega)) (funext fun j => eN_5 (Or.inl (by omega)) 20 hO hs ht)
theorem kq_sw {X : XM} (hO : WO X) {c s : Nat} (hc : (c : Int) < nC X) : KQ X (sw X c s) := by
  unfold sw
  split
  · exact KQ.refl X
  · next h =>
    have h1 := place_R hO hc s
    have h2 := plc_R X c s (X 1 (4 + c) 2).toNat
    have h3 : place X c s = plc X c s (X 1 (4 + c) 2).toNat := rfl
    exact kq_lv (by omega)
section SCR
variable {g : Gt} {M : Mt} {d pc : Nat} {ls : List (Option Value)} {st : List Value} {h : AH} {mc ms : Nat} {Q : RT → AH → Prop}
theorem ev_scr {z : Int} (j n : Nat) (hz : z = (j : Int)) (hj : j < (gX g).2.1) (hl : (gX g).2.1 ≤ 260) (hd : decode (mC M) pc = .ok (.iaload, 1)) (hn : pc + 1 = n) (kk : Ev g M d n ls (.int ((gX g).2.2 j) :: st) h mc ms Q) : Ev g M d pc ls (.int (J z) :: .ref (gX g).1 :: st) h mc ms Q := by
  subst hn
  subst hz
  intro p e s m args below meth c H locs cells slots lsA tc ts hM hS hL h1 h2
  have hC := hM.2.2.2.2.2.2.2.2
  refine va_sld hM.1 hM.2.1 hC.2.2.2.1 (Nat.lt_of_lt_of_le hC.2.2.2.2 hC.2.1) (fun z => Nat.not_le.mpr hC.2.2.2.2 z) hS.2 (J_in hj (by omega)) hd ?_
  rw [J_clampN (by omega)]
  exact kk p e s m args below meth c H locs cells slots lsA tc ts hM hS hL h1 h2
theorem ev_scl (n : Nat) (hl : (gX g).2.1 ≤ 260) (hd : decode (mC M) pc = .ok (.arraylength, 1)) (hn : pc + 1 = n) (kk : Ev g M d n ls (.int (J ((gX g).2.1 : Int)) :: st) h mc ms Q) : Ev g M d pc ls (.ref (gX g).1 :: st) h mc ms Q := by
  subst hn
  intro p e s m args below meth c H locs cells slots lsA tc ts hM hS hL h1 h2
  have hC := hM.2.2.2.2.2.2.2.2
  refine va_slen hM.1 hM.2.1 hC.2.2.2.1 (Nat.lt_of_lt_of_le hC.2.2.2.2 hC.2.1) (fun z => Nat.not_le.mpr hC.2.2.2.2 z) hS.2 hd ?_
  have e9 : Int32.ofNat (gX g).2.1 = J ((gX g).2.1 : Int) := J_nI _
  rw [e9]
  exact kk p e s m args below meth c H locs cells slots lsA tc ts hM hS hL h1 h2
end SCR
