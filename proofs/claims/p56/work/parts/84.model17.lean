/-! THE REFERENCE: audits -/
/-- what an audit changes of the reference -/
def LO (X X' : XM) : Prop := (∀ kk, kk ≠ 40 → kk ≠ 73 → kk ≠ 74 → kk ≠ 78 → X' kk = X kk) ∧ ∀ j, j ≠ 35 → j ≠ 36 → j ≠ 37 → X' 40 0 j = X 40 0 j
theorem LO.tr {X Y Z : XM} (h1 : LO X Y) (h2 : LO Y Z) : LO X Z := ⟨fun kk a b c d => (h2.1 kk a b c d).trans (h1.1 kk a b c d), fun j a b c => (h2.2 j a b c).trans (h1.2 j a b c)⟩
/-- the most courses; the short slots; their rules; the slot of a course in the first best match -/
noncomputable def mstV (O : XM) (s : Nat) (b : Bool) : Int := mx (Rc (nsl O s) (ftR O s b) (ndR O s) 0 0 20)
noncomputable def shp (O : XM) (s k : Nat) : Bool := decide (mx (Rc (nsl O s) (ftR O s false) (rm1 (ndR O s) k) 0 0 20) = mstV O s false)
theorem mx_R {m : Nat} {fit : Nat → Nat → Bool} {rm : Nat → Int} {fr fl i : Nat} (hm : m ≤ 4) (hr : ∀ k, k < m → rm k ≤ 3) (hf : fl < 256) : 0 ≤ mx (Rc m fit rm fr fl i) ∧ mx (Rc m fit rm fr fl i) ≤ 12 := by
  obtain ⟨-, g, -, h⟩ := mx_ex (R := Rc m fit rm fr fl i) (Rc_self i) (fun g q => Rc_lt hm hr hf i q)
  have := nf_12 g
  omega
theorem mstV_R {O : XM} (hO : WO O) (s : Nat) (b : Bool) : 0 ≤ mstV O s b ∧ mstV O s b ≤ 12 := mx_R (nsl_4 hO s) (fun k hk => (ndR_R hO hk).2) (by decide)
theorem lckV_lt {O : XM} (hO : WO O) (s : Nat) : ∀ n, n ≤ nsl O s → lkV (itR O s) (shp O s) n < 65536 := fun n hn => by
  have q := wo_nR hO
  have := lkV_lt (it := itR O s) (p := shp O s) n 16 (fun k hk => by have := (itR_p hO (show k < nsl O s by omega)).1; omega) (fun k k2 h1 h2 => itR_lt h1 (by omega))
  exact this
