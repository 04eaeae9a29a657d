/-! quotients of whole numbers are numbers -/
theorem n64_of {r : UInt64} (h : Jvm.FP.Core.val64 r ≠ .nan) : vf_n64 r := by
  refine Classical.byContradiction fun hn => h ?_
  unfold vf_n64 at hn
  have h1 : (0x7ff0000000000000 : UInt64) < r &&& 0x7fffffffffffffff := UInt64.not_le.mp hn
  rw [UInt64.lt_iff_toNat_lt, UInt64.toNat_and] at h1
  have e : r.toNat &&& (0x7fffffffffffffff : UInt64).toNat = r.toNat % 2 ^ 63 := Nat.and_two_pow_sub_one_eq_mod r.toNat 63
  rw [e] at h1
  have h2 : 0x7ff0000000000000 < r.toNat % 9223372036854775808 := h1
  have h3 := r.toNat_lt
  unfold Jvm.FP.Core.val64 Jvm.FP.Core.decode
  have eT : Jvm.FP.Core.fieldT Jvm.FP.Core.b64 r.toNat = r.toNat % 4503599627370496 := rfl
  have eE : Jvm.FP.Core.fieldE Jvm.FP.Core.b64 r.toNat = r.toNat / 4503599627370496 % 2048 := rfl
  have ex : Jvm.FP.Core.b64.exps - 1 = 2047 := rfl
  rw [eT, eE, ex, if_pos (by omega), if_neg (by omega)]
theorem n32_of {r : UInt32} (h : Jvm.FP.Core.val32 r ≠ .nan) : vf_n32 r := by
  refine Classical.byContradiction fun hn => h ?_
  unfold vf_n32 at hn
  have h1 : (0x7f800000 : UInt32) < r &&& 0x7fffffff := UInt32.not_le.mp hn
  rw [UInt32.lt_iff_toNat_lt, UInt32.toNat_and] at h1
  have e : r.toNat &&& (0x7fffffff : UInt32).toNat = r.toNat % 2 ^ 31 := Nat.and_two_pow_sub_one_eq_mod r.toNat 31
  rw [e] at h1
  have h2 : 0x7f800000 < r.toNat % 2147483648 := h1
  have h3 := r.toNat_lt
  unfold Jvm.FP.Core.val32 Jvm.FP.Core.decode
  have eT : Jvm.FP.Core.fieldT Jvm.FP.Core.b32 r.toNat = r.toNat % 8388608 := rfl
  have eE : Jvm.FP.Core.fieldE Jvm.FP.Core.b32 r.toNat = r.toNat / 8388608 % 256 := rfl
  have ex : Jvm.FP.Core.b32.exps - 1 = 255 := rfl
  rw [eT, eE, ex, if_pos (by omega), if_neg (by omega)]
theorem ratio_num (f : Jvm.FP.Core.Fmt) (s : Bool) (n d : Nat) (e : Int) : Jvm.FP.Core.roundRatio f s n d e ≠ .nan := by
  unfold Jvm.FP.Core.roundRatio
  split
  · intro z; cases z
  · unfold Jvm.FP.Core.roundAt Jvm.FP.Core.settle Jvm.FP.Core.bound
    split <;> split <;> intro z <;> cases z
theorem quot_num {f : Jvm.FP.Core.Fmt} {x y : Jvm.FP.Core.Datum} {i j : Int} (hx : Jvm.FP.Core.Whole i x) (hy : Jvm.FP.Core.Whole j y) (hj : j ≠ 0) : Jvm.FP.Core.quotient f x y ≠ .nan := by
  cases x with
  | nan => exact hx.elim
  | inf => exact hx.elim
  | fin s c q =>
    cases y with
    | nan => exact hy.elim
    | inf => exact hy.elim
    | fin t d r =>
      have hd : d ≠ 0 := by
        intro z
        subst z
        have h : Jvm.FP.Core.signed t (0 * 2 ^ r.toNat) = j * ((2 ^ (-r).toNat : Nat) : Int) := hy
        rw [Nat.zero_mul] at h
        have h0 : Jvm.FP.Core.signed t 0 = 0 := by cases t <;> rfl
        rw [h0] at h
        have hp : ((2 ^ (-r).toNat : Nat) : Int) ≠ 0 := by
          have := Nat.pow_pos (n := (-r).toNat) (show 0 < 2 by omega)
          omega
        rcases Int.mul_eq_zero.mp h.symm with h | h
        · exact hj h
        · exact hp h
      show (if d = 0 then _ else _) ≠ _
      rw [if_neg hd]
      exact ratio_num _ _ _ _ _
theorem ddiv_num {a b : Int32} (hb : b.toInt ≠ 0) : vf_n64 (FP.ddiv (FP.i2d a) (FP.i2d b)) := by
  refine n64_of ?_
  show Jvm.FP.Core.val64 (Jvm.FP.Core.ddiv (Jvm.FP.Core.i2d a) (Jvm.FP.Core.i2d b)) ≠ _
  rw [Jvm.FP.Core.val64_ddiv]
  exact quot_num (Jvm.FP.Core.i2d_int a) (Jvm.FP.Core.i2d_int b) hb
theorem fdiv_num {a b : Int32} (ha : a.toInt.natAbs ≤ 2 ^ 24) (hb2 : b.toInt.natAbs ≤ 2 ^ 24) (hb : b.toInt ≠ 0) : vf_n32 (FP.fdiv (FP.i2f a) (FP.i2f b)) := by
  refine n32_of ?_
  show Jvm.FP.Core.val32 (Jvm.FP.Core.fdiv (Jvm.FP.Core.i2f a) (Jvm.FP.Core.i2f b)) ≠ _
  rw [Jvm.FP.Core.val32_fdiv]
  exact quot_num (Jvm.FP.Core.i2f_int ha) (Jvm.FP.Core.i2f_int hb2) hb
theorem dd_J {a b : Int} (hb : R31 b) (h0 : b ≠ 0) : vf_n64 (FP.ddiv (FP.i2d (J a)) (FP.i2d (J b))) := ddiv_num (by rw [J_toInt hb]; exact h0)
theorem fd_J {a b : Int} (ha : 0 ≤ a ∧ a ≤ 1000) (hb : 0 < b ∧ b ≤ 1000) : vf_n32 (FP.fdiv (FP.i2f (J a)) (FP.i2f (J b))) := fdiv_num (by rw [J_toInt ⟨by omega, by omega⟩]; omega) (by rw [J_toInt ⟨by omega, by omega⟩]; omega) (by rw [J_toInt ⟨by omega, by omega⟩]; omega)
/-- the sums of an average: marks by weights, weights -/
def avS (O : XM) (s : Nat) : Nat → Int
  | 0 => 0
  | c + 1 => if lastM O s c = -1 then avS O s c else avS O s c + lastM O s c * O 12 c 1
def avW (O : XM) (s : Nat) : Nat → Int
  | 0 => 0
  | c + 1 => if lastM O s c = -1 then avW O s c else avW O s c + O 12 c 1
theorem lastM_R {O : XM} (hO : WO O) {s c : Nat} (hs : (s : Int) < nS O) (hc : c < 20) : -1 ≤ lastM O s c ∧ lastM O s c ≤ 100 := by
  have q := wo_tri hO s c hs hc
  exact lmT_R hO hs hc _ (by omega)
theorem av_R {O : XM} (hO : WO O) {s : Nat} (hs : (s : Int) < nS O) : ∀ c : Nat, (c : Int) ≤ nC O → 0 ≤ avS O s c ∧ avS O s c ≤ 600 * c ∧ 0 ≤ avW O s c ∧ avW O s c ≤ 6 * c
  | 0, _ => by show (0 : Int) ≤ 0 ∧ (0 : Int) ≤ 600 * ((0 : Nat) : Int) ∧ (0 : Int) ≤ 0 ∧ (0 : Int) ≤ 6 * ((0 : Nat) : Int); omega
  | c + 1, hc => by
    have qc := wo_nC hO
    have h1 := av_R hO hs c (by omega)
    have h2 := lastM_R hO hs (c := c) (by omega)
    have h3 := wo_crd hO c (by omega)
    rw [avS, avW]
    by_cases e : lastM O s c = -1
    · rw [if_pos e, if_pos e]; omega
    · rw [if_neg e, if_neg e]
      have h4 : 0 ≤ lastM O s c * O 12 c 1 := Int.mul_nonneg (by omega) (by omega)
      have h5 : lastM O s c * O 12 c 1 ≤ 100 * 6 := Int.mul_le_mul (by omega) (by omega) (by omega) (by omega)
      omega
