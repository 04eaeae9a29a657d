/-! THE OFFICE as numbers: what the memory says, and what the calls answer -/
abbrev nC (O : XM) : Int := O 1 0 2
abbrev nS (O : XM) : Int := O 1 1 2
abbrev nF (O : XM) : Int := O 1 2 2
abbrev nR (O : XM) : Int := O 1 3 2
abbrev crd (O : XM) (c : Nat) : Int := O 12 c 1
abbrev bst (O : XM) (s c : Nat) : Int := O 8 s c
def psd (O : XM) (s c : Nat) : Bool := decide (50 ≤ O 8 s c)
def tak (O : XM) (s c : Nat) : Bool := decide (O 5 s c ≠ 0)
def mvd (O : XM) (s c : Nat) : Bool := decide (O 6 s c ≠ 0)
/-- the credits of the courses below n with p -/
def crS (O : XM) (p : Nat → Bool) : Nat → Int
  | 0 => 0
  | n + 1 => crS O p n + (if p n = true then O 12 n 1 else 0)
def ernd (O : XM) (s : Nat) : Int := crS O (psd O s) (nC O).toNat
def load (O : XM) (s : Nat) : Int := crS O (tak O s) (nC O).toNat
def movd (O : XM) (s : Nat) : Int := crS O (mvd O s) (nC O).toNat
/-- how many below n have p -/
def cnt (p : Nat → Bool) : Nat → Int
  | 0 => 0
  | n + 1 => cnt p n + (if p n = true then 1 else 0)
def enr (O : XM) (c : Nat) : Int := cnt (fun s => tak O s c) (nS O).toNat
def enrM (O : XM) (c : Nat) (m : Int) : Int := cnt (fun s => tak O s c && decide (O 4 s 0 = m)) (nS O).toNat
/-- the best of the first k attempts and of moved credit -/
def bsT (O : XM) (s c : Nat) : Nat → Int
  | 0 => if mvd O s c = true then 50 else -1
  | k + 1 => if bsT O s c k < O 11 (20 * s + c) k then O 11 (20 * s + c) k else bsT O s c k
/-- what is free: the seats, less who is enrolled, less what is kept for others up to day 3 -/
def kept (O : XM) (c : Nat) (m : Int) : Nat → Int
  | 0 => 0
  | k + 1 => kept O c m k + (if (k : Int) ≠ m ∧ enrM O c k < O 13 c k then O 13 c k - enrM O c k else 0)
def free0 (O : XM) (c : Nat) (m : Int) : Int := O 12 c 2 - enr O c - (if O 0 0 5 ≤ 3 then kept O c m 4 else 0)
def free (O : XM) (c : Nat) (m : Int) : Int := if free0 O c m < 0 then 0 else free0 O c m
/-- formulas: one by its number and the truth of those below -/
def evF (O : XM) (b : Nat → Int) (t : Nat → Bool) (e : Int) (f : Nat) (z : Nat → Bool) : Bool :=
  if O 16 f 9 = 0 then decide (O 16 f 2 ≤ b (O 16 f 1).toNat)
  else if O 16 f 9 = 1 then t (O 16 f 1).toNat || decide (50 ≤ b (O 16 f 1).toNat)
  else if O 16 f 9 = 2 then decide (O 16 f 1 ≤ e)
  else if O 16 f 9 = 3 then decide (O 16 f 1 ≤ bi (z (O 16 f 2).toNat) + bi (z (O 16 f 3).toNat) + bi (decide (O 16 f 4 ≠ -1) && z (O 16 f 4).toNat))
  else !(z (O 16 f 1).toNat)
def ttF (O : XM) (b : Nat → Int) (t : Nat → Bool) (e : Int) : Nat → Nat → Bool
  | 0 => fun _ => false
  | n + 1 => fun f => if f = n then evF O b t e n (ttF O b t e n) else ttF O b t e n f
def holF (O : XM) (b : Nat → Int) (t : Nat → Bool) (e : Int) (f : Nat) : Bool := ttF O b t e (f + 1) f
def hol (O : XM) (s f : Nat) : Bool := holF O (O 8 s) (tak O s) (ernd O s) f
theorem ttF_lt (O : XM) (b : Nat → Int) (t : Nat → Bool) (e : Int) {f n : Nat} (h : f < n) : ttF O b t e n f = holF O b t e f := by
  induction n with
  | zero => omega
  | succ n ih =>
    by_cases c : f = n
    · subst c; rfl
    · show (if f = n then _ else ttF O b t e n f) = _
      rw [if_neg c]
      exact ih (by omega)
/-- the requisite of a course -/
def mayT (O : XM) (s c : Nat) : Bool := decide (O 12 c 5 = -1) || hol O s (O 12 c 5).toNat
def fitsL (O : XM) (s c : Nat) : Bool := decide (load O s + O 12 c 1 ≤ 18)
def canT (O : XM) (s c : Nat) : Bool := decide (0 < free O c (O 4 s 0)) && fitsL O s c && mayT O s c
/-- the place of s on c's list among the first n; -1 -/
def plc (O : XM) (c s : Nat) : Nat → Int
  | 0 => -1
  | n + 1 => if plc O c s n = -1 then (if O 2 (4 + c) (n + 1) = s then n else -1) else plc O c s n
def place (O : XM) (c s : Nat) : Int := plc O c s (O 1 (4 + c) 2).toNat
def WO (O : XM) : Prop := (0 ≤ nC O ∧ nC O ≤ 20) ∧ (0 ≤ nS O ∧ nS O ≤ 16) ∧ (0 ≤ nF O ∧ nF O ≤ 60) ∧ (0 ≤ nR O ∧ nR O ≤ 0) ∧ (0 ≤ O 0 0 5 ∧ O 0 0 5 ≤ 30) ∧ (0 ≤ O 0 0 6 ∧ O 0 0 6 ≤ 1000000) ∧ (∀ c : Nat, (c : Int) < nC O → 1 ≤ O 12 c 1 ∧ O 12 c 1 ≤ 6) ∧ (∀ c : Nat, (c : Int) < nC O → 1 ≤ O 12 c 2 ∧ O 12 c 2 ≤ 12) ∧ (∀ c : Nat, (c : Int) < nC O → -1 ≤ O 12 c 5 ∧ O 12 c 5 < nF O) ∧ (∀ c m : Nat, (c : Int) < nC O → m < 4 → 0 ≤ O 13 c m ∧ O 13 c m ≤ 12) ∧ (∀ c : Nat, (c : Int) < nC O → 0 ≤ O 1 (4 + c) 2 ∧ O 1 (4 + c) 2 ≤ 6) ∧ (∀ c k : Nat, (c : Int) < nC O → (k : Int) < O 1 (4 + c) 2 → 0 ≤ O 2 (4 + c) (k + 1) ∧ O 2 (4 + c) (k + 1) < nS O) ∧ (∀ s : Nat, (s : Int) < nS O → 0 ≤ O 4 s 0 ∧ O 4 s 0 ≤ 3) ∧ (∀ s c : Nat, s < 16 → O 5 s c = 0 ∨ O 5 s c = 1) ∧ (∀ s c : Nat, s < 16 → O 6 s c = 0 ∨ O 6 s c = 1) ∧ (∀ s c : Nat, (s : Int) < nS O → c < 20 → -1 ≤ O 7 s c ∧ O 7 s c ≤ 100) ∧ (∀ s c : Nat, (s : Int) < nS O → c < 20 → -1 ≤ O 8 s c ∧ O 8 s c ≤ 100) ∧ (∀ s c : Nat, (s : Int) < nS O → c < 20 → 0 ≤ O 9 s c ∧ O 9 s c ≤ 3) ∧ (∀ s c k : Nat, (s : Int) < nS O → c < 20 → (k : Int) < O 9 s c → -1 ≤ O 11 (20 * s + c) k ∧ O 11 (20 * s + c) k ≤ 100) ∧ (∀ s c : Nat, (s : Int) < nS O → c < 20 → O 8 s c = bsT O s c (O 9 s c).toNat) ∧ (∀ s c : Nat, (s : Int) < nS O → nC O ≤ (c : Int) → c < 20 → O 5 s c = 0 ∧ O 6 s c = 0 ∧ O 9 s c = 0) ∧ (∀ f : Nat, (f : Int) < nF O → 0 ≤ O 16 f 0 ∧ O 16 f 0 ≤ 5) ∧ (∀ f : Nat, 0 ≤ O 16 f 0) ∧ (∀ f : Nat, (f : Int) < nF O → 0 ≤ O 16 f 9 ∧ O 16 f 9 ≤ 4) ∧ (∀ f : Nat, (f : Int) < nF O → O 16 f 9 = 0 → 0 ≤ O 16 f 1 ∧ O 16 f 1 < nC O ∧ 0 ≤ O 16 f 2 ∧ O 16 f 2 ≤ 100 ∧ O 16 f 0 = 0) ∧ (∀ f : Nat, (f : Int) < nF O → O 16 f 9 = 1 → 0 ≤ O 16 f 1 ∧ O 16 f 1 < nC O ∧ O 16 f 0 = 0) ∧ (∀ f : Nat, (f : Int) < nF O → O 16 f 9 = 2 → 0 ≤ O 16 f 1 ∧ O 16 f 1 ≤ 120 ∧ O 16 f 0 = 0) ∧ (∀ f : Nat, (f : Int) < nF O → O 16 f 9 = 3 → 0 ≤ O 16 f 2 ∧ O 16 f 2 < f ∧ 0 ≤ O 16 f 3 ∧ O 16 f 3 < f ∧ -1 ≤ O 16 f 4 ∧ O 16 f 4 < f ∧ (O 16 f 1 = 1 ∨ O 16 f 1 = 2) ∧ (O 16 f 4 ≠ -1 → O 16 f 1 = 2) ∧ O 16 (O 16 f 2).toNat 0 < O 16 f 0 ∧ O 16 (O 16 f 3).toNat 0 < O 16 f 0 ∧ (O 16 f 4 ≠ -1 → O 16 (O 16 f 4).toNat 0 < O 16 f 0)) ∧ (∀ f : Nat, (f : Int) < nF O → O 16 f 9 = 4 → 0 ≤ O 16 f 1 ∧ O 16 f 1 < f ∧ O 16 (O 16 f 1).toNat 0 < O 16 f 0) ∧ (∀ r : Nat, (r : Int) < nR O → 0 ≤ O 14 r 0 ∧ O 14 r 0 ≤ 3 ∧ 1 ≤ O 14 r 1 ∧ O 14 r 1 ≤ 3 ∧ 0 ≤ O 14 r 2 ∧ O 14 r 2 ≤ 100) ∧ (∀ r c : Nat, O 15 r c = 0 ∨ O 15 r c = 1) ∧ (∀ m : Int, cnt (fun r => decide (O 14 r 0 = m)) (nR O).toNat ≤ 4) ∧ (∀ s c : Nat, (s : Int) < nS O → c < 20 → O 5 s c ≠ 0 → O 9 s c ≤ 2) ∧ (∀ c : Nat, (c : Int) < nC O → 5 < O 0 0 5 → O 1 (4 + c) 2 = 0) ∧ (∀ c k : Nat, (c : Int) < nC O → (k : Int) < O 1 (4 + c) 2 → O 9 (O 2 (4 + c) (k + 1)).toNat c ≤ 2) ∧ (∀ m : Nat, m < 4 → 0 ≤ O 3 0 m ∧ O 3 0 m ≤ 120) ∧ (∀ s c : Nat, (s : Int) < nS O → nC O ≤ (c : Int) → c < 20 → O 7 s c = -1) ∧ True
theorem wo_nC {O : XM} (h : WO O) : 0 ≤ nC O ∧ nC O ≤ 20 := h.1
theorem wo_nS {O : XM} (h : WO O) : 0 ≤ nS O ∧ nS O ≤ 16 := h.2.1
theorem wo_nF {O : XM} (h : WO O) : 0 ≤ nF O ∧ nF O ≤ 60 := h.2.2.1
theorem wo_nR {O : XM} (h : WO O) : 0 ≤ nR O ∧ nR O ≤ 0 := h.2.2.2.1
theorem wo_day {O : XM} (h : WO O) : 0 ≤ O 0 0 5 ∧ O 0 0 5 ≤ 30 := h.2.2.2.2.1
theorem wo_term {O : XM} (h : WO O) : 0 ≤ O 0 0 6 ∧ O 0 0 6 ≤ 1000000 := h.2.2.2.2.2.1
theorem wo_crd {O : XM} (h : WO O) : ∀ c : Nat, (c : Int) < nC O → 1 ≤ O 12 c 1 ∧ O 12 c 1 ≤ 6 := h.2.2.2.2.2.2.1
theorem wo_sea {O : XM} (h : WO O) : ∀ c : Nat, (c : Int) < nC O → 1 ≤ O 12 c 2 ∧ O 12 c 2 ≤ 12 := h.2.2.2.2.2.2.2.1
theorem wo_req {O : XM} (h : WO O) : ∀ c : Nat, (c : Int) < nC O → -1 ≤ O 12 c 5 ∧ O 12 c 5 < nF O := h.2.2.2.2.2.2.2.2.1
theorem wo_res {O : XM} (h : WO O) : ∀ c m : Nat, (c : Int) < nC O → m < 4 → 0 ≤ O 13 c m ∧ O 13 c m ≤ 12 := h.2.2.2.2.2.2.2.2.2.1
theorem wo_wN {O : XM} (h : WO O) : ∀ c : Nat, (c : Int) < nC O → 0 ≤ O 1 (4 + c) 2 ∧ O 1 (4 + c) 2 ≤ 6 := h.2.2.2.2.2.2.2.2.2.2.1
theorem wo_wA {O : XM} (h : WO O) : ∀ c k : Nat, (c : Int) < nC O → (k : Int) < O 1 (4 + c) 2 → 0 ≤ O 2 (4 + c) (k + 1) ∧ O 2 (4 + c) (k + 1) < nS O := h.2.2.2.2.2.2.2.2.2.2.2.1
theorem wo_maj {O : XM} (h : WO O) : ∀ s : Nat, (s : Int) < nS O → 0 ≤ O 4 s 0 ∧ O 4 s 0 ≤ 3 := h.2.2.2.2.2.2.2.2.2.2.2.2.1
theorem wo_t01 {O : XM} (h : WO O) : ∀ s c : Nat, s < 16 → O 5 s c = 0 ∨ O 5 s c = 1 := h.2.2.2.2.2.2.2.2.2.2.2.2.2.1
theorem wo_m01 {O : XM} (h : WO O) : ∀ s c : Nat, s < 16 → O 6 s c = 0 ∨ O 6 s c = 1 := h.2.2.2.2.2.2.2.2.2.2.2.2.2.2.1
theorem wo_tm {O : XM} (h : WO O) : ∀ s c : Nat, (s : Int) < nS O → c < 20 → -1 ≤ O 7 s c ∧ O 7 s c ≤ 100 := h.2.2.2.2.2.2.2.2.2.2.2.2.2.2.2.1
theorem wo_bst {O : XM} (h : WO O) : ∀ s c : Nat, (s : Int) < nS O → c < 20 → -1 ≤ O 8 s c ∧ O 8 s c ≤ 100 := h.2.2.2.2.2.2.2.2.2.2.2.2.2.2.2.2.1
theorem wo_tri {O : XM} (h : WO O) : ∀ s c : Nat, (s : Int) < nS O → c < 20 → 0 ≤ O 9 s c ∧ O 9 s c ≤ 3 := h.2.2.2.2.2.2.2.2.2.2.2.2.2.2.2.2.2.1
theorem wo_trd {O : XM} (h : WO O) : ∀ s c k : Nat, (s : Int) < nS O → c < 20 → (k : Int) < O 9 s c → -1 ≤ O 11 (20 * s + c) k ∧ O 11 (20 * s + c) k ≤ 100 := h.2.2.2.2.2.2.2.2.2.2.2.2.2.2.2.2.2.2.1
theorem wo_bsq {O : XM} (h : WO O) : ∀ s c : Nat, (s : Int) < nS O → c < 20 → O 8 s c = bsT O s c (O 9 s c).toNat := h.2.2.2.2.2.2.2.2.2.2.2.2.2.2.2.2.2.2.2.1
theorem wo_far {O : XM} (h : WO O) : ∀ s c : Nat, (s : Int) < nS O → nC O ≤ (c : Int) → c < 20 → O 5 s c = 0 ∧ O 6 s c = 0 ∧ O 9 s c = 0 := h.2.2.2.2.2.2.2.2.2.2.2.2.2.2.2.2.2.2.2.2.1
theorem wo_dep {O : XM} (h : WO O) : ∀ f : Nat, (f : Int) < nF O → 0 ≤ O 16 f 0 ∧ O 16 f 0 ≤ 5 := h.2.2.2.2.2.2.2.2.2.2.2.2.2.2.2.2.2.2.2.2.2.1
theorem wo_dp0 {O : XM} (h : WO O) : ∀ f : Nat, 0 ≤ O 16 f 0 := h.2.2.2.2.2.2.2.2.2.2.2.2.2.2.2.2.2.2.2.2.2.2.1
theorem wo_fk {O : XM} (h : WO O) : ∀ f : Nat, (f : Int) < nF O → 0 ≤ O 16 f 9 ∧ O 16 f 9 ≤ 4 := h.2.2.2.2.2.2.2.2.2.2.2.2.2.2.2.2.2.2.2.2.2.2.2.1
theorem wo_f0 {O : XM} (h : WO O) : ∀ f : Nat, (f : Int) < nF O → O 16 f 9 = 0 → 0 ≤ O 16 f 1 ∧ O 16 f 1 < nC O ∧ 0 ≤ O 16 f 2 ∧ O 16 f 2 ≤ 100 ∧ O 16 f 0 = 0 := h.2.2.2.2.2.2.2.2.2.2.2.2.2.2.2.2.2.2.2.2.2.2.2.2.1
theorem wo_f1 {O : XM} (h : WO O) : ∀ f : Nat, (f : Int) < nF O → O 16 f 9 = 1 → 0 ≤ O 16 f 1 ∧ O 16 f 1 < nC O ∧ O 16 f 0 = 0 := h.2.2.2.2.2.2.2.2.2.2.2.2.2.2.2.2.2.2.2.2.2.2.2.2.2.1
theorem wo_f2 {O : XM} (h : WO O) : ∀ f : Nat, (f : Int) < nF O → O 16 f 9 = 2 → 0 ≤ O 16 f 1 ∧ O 16 f 1 ≤ 120 ∧ O 16 f 0 = 0 := h.2.2.2.2.2.2.2.2.2.2.2.2.2.2.2.2.2.2.2.2.2.2.2.2.2.2.1
theorem wo_f3 {O : XM} (h : WO O) : ∀ f : Nat, (f : Int) < nF O → O 16 f 9 = 3 → 0 ≤ O 16 f 2 ∧ O 16 f 2 < f ∧ 0 ≤ O 16 f 3 ∧ O 16 f 3 < f ∧ -1 ≤ O 16 f 4 ∧ O 16 f 4 < f ∧ (O 16 f 1 = 1 ∨ O 16 f 1 = 2) ∧ (O 16 f 4 ≠ -1 → O 16 f 1 = 2) ∧ O 16 (O 16 f 2).toNat 0 < O 16 f 0 ∧ O 16 (O 16 f 3).toNat 0 < O 16 f 0 ∧ (O 16 f 4 ≠ -1 → O 16 (O 16 f 4).toNat 0 < O 16 f 0) := h.2.2.2.2.2.2.2.2.2.2.2.2.2.2.2.2.2.2.2.2.2.2.2.2.2.2.2.1
theorem wo_f4 {O : XM} (h : WO O) : ∀ f : Nat, (f : Int) < nF O → O 16 f 9 = 4 → 0 ≤ O 16 f 1 ∧ O 16 f 1 < f ∧ O 16 (O 16 f 1).toNat 0 < O 16 f 0 := h.2.2.2.2.2.2.2.2.2.2.2.2.2.2.2.2.2.2.2.2.2.2.2.2.2.2.2.2.1
theorem wo_rul {O : XM} (h : WO O) : ∀ r : Nat, (r : Int) < nR O → 0 ≤ O 14 r 0 ∧ O 14 r 0 ≤ 3 ∧ 1 ≤ O 14 r 1 ∧ O 14 r 1 ≤ 3 ∧ 0 ≤ O 14 r 2 ∧ O 14 r 2 ≤ 100 := h.2.2.2.2.2.2.2.2.2.2.2.2.2.2.2.2.2.2.2.2.2.2.2.2.2.2.2.2.2.1
theorem wo_r01 {O : XM} (h : WO O) : ∀ r c : Nat, O 15 r c = 0 ∨ O 15 r c = 1 := h.2.2.2.2.2.2.2.2.2.2.2.2.2.2.2.2.2.2.2.2.2.2.2.2.2.2.2.2.2.2.1
theorem wo_rm4 {O : XM} (h : WO O) : ∀ m : Int, cnt (fun r => decide (O 14 r 0 = m)) (nR O).toNat ≤ 4 := h.2.2.2.2.2.2.2.2.2.2.2.2.2.2.2.2.2.2.2.2.2.2.2.2.2.2.2.2.2.2.2.1
theorem wo_tk3 {O : XM} (h : WO O) : ∀ s c : Nat, (s : Int) < nS O → c < 20 → O 5 s c ≠ 0 → O 9 s c ≤ 2 := h.2.2.2.2.2.2.2.2.2.2.2.2.2.2.2.2.2.2.2.2.2.2.2.2.2.2.2.2.2.2.2.2.1
theorem wo_w6 {O : XM} (h : WO O) : ∀ c : Nat, (c : Int) < nC O → 5 < O 0 0 5 → O 1 (4 + c) 2 = 0 := h.2.2.2.2.2.2.2.2.2.2.2.2.2.2.2.2.2.2.2.2.2.2.2.2.2.2.2.2.2.2.2.2.2.1
theorem wo_wt3 {O : XM} (h : WO O) : ∀ c k : Nat, (c : Int) < nC O → (k : Int) < O 1 (4 + c) 2 → O 9 (O 2 (4 + c) (k + 1)).toNat c ≤ 2 := h.2.2.2.2.2.2.2.2.2.2.2.2.2.2.2.2.2.2.2.2.2.2.2.2.2.2.2.2.2.2.2.2.2.2.1
theorem wo_deg {O : XM} (h : WO O) : ∀ m : Nat, m < 4 → 0 ≤ O 3 0 m ∧ O 3 0 m ≤ 120 := h.2.2.2.2.2.2.2.2.2.2.2.2.2.2.2.2.2.2.2.2.2.2.2.2.2.2.2.2.2.2.2.2.2.2.2.1
theorem wo_f7 {O : XM} (h : WO O) : ∀ s c : Nat, (s : Int) < nS O → nC O ≤ (c : Int) → c < 20 → O 7 s c = -1 := h.2.2.2.2.2.2.2.2.2.2.2.2.2.2.2.2.2.2.2.2.2.2.2.2.2.2.2.2.2.2.2.2.2.2.2.2.1
/-- a number as a set of courses -/
def bitsE (z : Int) (f : Nat → Int) : Prop := 0 ≤ z ∧ z < 1048576 ∧ ∀ c : Nat, c < 20 → z.toNat.testBit c = decide (f c ≠ 0)
/-- what the class's memory needs beside: that the objects are there, and the lists hold them -/
def WV (ν : Nat → Nat → Bool) (X : XM) : Prop := (∀ s : Nat, (s : Int) < nS X → ν 4 s = true) ∧ (ν 4 16 = true) ∧ (∀ c : Nat, (c : Int) < nC X → ν 12 c = true) ∧ (∀ r : Nat, (r : Int) < nR X → ν 14 r = true) ∧ (∀ f : Nat, (f : Int) < nF X → ν 16 f = true) ∧ (∀ i : Nat, i < 4 → X 1 i 1 ≠ 0 → ν 2 i = true ∧ X 1 i 2 ≤ X 2 i 0) ∧ (∀ i : Nat, i < 4 → X 1 i 1 = 0 → X 1 i 2 = 0) ∧ (∀ i j : Nat, i < 4 → (j : Int) < X 1 i 2 → X 2 i (j + 1) = j) ∧ (∀ c : Nat, (c : Int) < nC X → X 1 (4 + c) 1 ≠ 0 → ν 2 (4 + c) = true ∧ X 1 (4 + c) 2 ≤ X 2 (4 + c) 0) ∧ (∀ c : Nat, (c : Int) < nC X → X 1 (4 + c) 1 = 0 → X 1 (4 + c) 2 = 0) ∧ (∀ i : Nat, X 2 i 0 ≤ 1000) ∧ True
theorem wv_stu {ν : Nat → Nat → Bool} {X : XM} (h : WV ν X) : ∀ s : Nat, (s : Int) < nS X → ν 4 s = true := h.1
theorem wv_new {ν : Nat → Nat → Bool} {X : XM} (h : WV ν X) : ν 4 16 = true := h.2.1
theorem wv_crs {ν : Nat → Nat → Bool} {X : XM} (h : WV ν X) : ∀ c : Nat, (c : Int) < nC X → ν 12 c = true := h.2.2.1
theorem wv_rul {ν : Nat → Nat → Bool} {X : XM} (h : WV ν X) : ∀ r : Nat, (r : Int) < nR X → ν 14 r = true := h.2.2.2.1
theorem wv_frm {ν : Nat → Nat → Bool} {X : XM} (h : WV ν X) : ∀ f : Nat, (f : Int) < nF X → ν 16 f = true := h.2.2.2.2.1
theorem wv_lst {ν : Nat → Nat → Bool} {X : XM} (h : WV ν X) : ∀ i : Nat, i < 4 → X 1 i 1 ≠ 0 → ν 2 i = true ∧ X 1 i 2 ≤ X 2 i 0 := h.2.2.2.2.2.1
theorem wv_ls0 {ν : Nat → Nat → Bool} {X : XM} (h : WV ν X) : ∀ i : Nat, i < 4 → X 1 i 1 = 0 → X 1 i 2 = 0 := h.2.2.2.2.2.2.1
theorem wv_le {ν : Nat → Nat → Bool} {X : XM} (h : WV ν X) : ∀ i j : Nat, i < 4 → (j : Int) < X 1 i 2 → X 2 i (j + 1) = j := h.2.2.2.2.2.2.2.1
theorem wv_wst {ν : Nat → Nat → Bool} {X : XM} (h : WV ν X) : ∀ c : Nat, (c : Int) < nC X → X 1 (4 + c) 1 ≠ 0 → ν 2 (4 + c) = true ∧ X 1 (4 + c) 2 ≤ X 2 (4 + c) 0 := h.2.2.2.2.2.2.2.2.1
theorem wv_ws0 {ν : Nat → Nat → Bool} {X : XM} (h : WV ν X) : ∀ c : Nat, (c : Int) < nC X → X 1 (4 + c) 1 = 0 → X 1 (4 + c) 2 = 0 := h.2.2.2.2.2.2.2.2.2.1
theorem wv_cap {ν : Nat → Nat → Bool} {X : XM} (h : WV ν X) : ∀ i : Nat, X 2 i 0 ≤ 1000 := h.2.2.2.2.2.2.2.2.2.2.1
def WX (ν : Nat → Nat → Bool) (X : XM) : Prop := WO X ∧ WV ν X
theorem wx_stu {ν : Nat → Nat → Bool} {X : XM} (h : WX ν X) {s : Nat} (hs : (s : Int) < nS X) : ν 4 s = true := wv_stu h.2 s hs
theorem wx_new {ν : Nat → Nat → Bool} {X : XM} (h : WX ν X) : ν 4 16 = true := wv_new h.2
theorem wx_crs {ν : Nat → Nat → Bool} {X : XM} (h : WX ν X) {s : Nat} (hs : (s : Int) < nC X) : ν 12 s = true := wv_crs h.2 s hs
theorem wx_frm {ν : Nat → Nat → Bool} {X : XM} (h : WX ν X) {s : Nat} (hs : (s : Int) < nF X) : ν 16 s = true := wv_frm h.2 s hs
theorem cnt_0 (p : Nat → Bool) : ∀ n, 0 ≤ cnt p n ∧ cnt p n ≤ n
  | 0 => ⟨Int.le_refl 0, Int.le_refl 0⟩
  | n + 1 => by
    have h := cnt_0 p n
    show 0 ≤ cnt p n + (if p n = true then 1 else 0) ∧ cnt p n + (if p n = true then 1 else 0) ≤ ((n + 1 : Nat) : Int)
    split <;> omega
theorem cnt_s (p : Nat → Bool) (n : Nat) : cnt p (n + 1) = cnt p n + (if p n = true then 1 else 0) := rfl
theorem crS_s (O : XM) (p : Nat → Bool) (n : Nat) : crS O p (n + 1) = crS O p n + (if p n = true then O 12 n 1 else 0) := rfl
theorem crS_0 {O : XM} (hO : WO O) (p : Nat → Bool) : ∀ n : Nat, (n : Int) ≤ nC O → 0 ≤ crS O p n ∧ crS O p n ≤ 6 * n
  | 0, _ => ⟨Int.le_refl 0, Int.le_refl 0⟩
  | n + 1, hn => by
    have h := crS_0 hO p n (by omega)
    have h2 := wo_crd hO n (by omega)
    rw [crS_s]
    split <;> omega
