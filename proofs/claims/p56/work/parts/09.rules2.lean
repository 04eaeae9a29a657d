section RU2
variable {g : Gt} {α : AL} {ν : Nat → Nat → Bool} {X : XM} {M M2 : Mt} {d d1 pc : Nat} {ls : List (Option Value)} {st : List Value} {h : AH} {mc ms : Nat} {Q : RT → AH → Prop}
theorem ev_tswIn {dflt lo hi : Int} {offs : Array Int} {len : Nat} {z off : Int} (k t : Nat) (hd : decode (mC M) pc = .ok (.tableswitch dflt lo hi offs, len)) (hz : z = lo + k) (ho : offs[k]? = some off) (ht : (pc : Int) + off = (t : Int)) (hr : R31 z) (hh : lo + k ≤ hi) (kk : Ev g M d t ls st h mc ms Q) : Ev g M d pc ls (.int (J z) :: st) h mc ms Q := by
  intro p e s m args below meth c H locs cells slots lsA tc ts hM hS hL h1 h2
  exact lv_tableIn hM.1 hM.2.1 hd (by rw [J_toInt hr]; omega) (by rw [J_toInt hr]; omega) (by rw [J_toInt hr, show (z - lo).toNat = k by omega]; exact ho) ht (kk p e s m args below meth c H locs cells slots lsA tc ts hM hS hL h1 h2)
theorem ev_tswOut {dflt lo hi : Int} {offs : Array Int} {len : Nat} {z : Int} (t : Nat) (hd : decode (mC M) pc = .ok (.tableswitch dflt lo hi offs, len)) (hr : R31 z) (hz : z < lo ∨ hi < z) (ht : (pc : Int) + dflt = (t : Int)) (kk : Ev g M d t ls st h mc ms Q) : Ev g M d pc ls (.int (J z) :: st) h mc ms Q := by
  intro p e s m args below meth c H locs cells slots lsA tc ts hM hS hL h1 h2
  exact lv_tableOut hM.1 hM.2.1 hd (by rw [J_toInt hr]; exact hz) ht (kk p e s m args below meth c H locs cells slots lsA tc ts hM hS hL h1 h2)
end RU2
