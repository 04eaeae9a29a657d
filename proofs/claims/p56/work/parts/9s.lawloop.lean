theorem ev_newk {g : Gt} {M : Mt} {d pc : Nat} {ls : List (Option Value)} {st : List Value} {h : AH} {mc ms : Nat} {Q : RT → AH → Prop} {index k : Nat} {fs : List Value} (n ci : Nat) (N : NW (mY M).cls index ci fs) (hk : fs.length = k) (hd : decode (mC M) pc = .ok (.new index, 3)) (hn : pc + 3 = n) (kk : ∀ q, h q = none → gB g ≤ q → Ev g M d n ls (.ref q :: st) (hup h q (.inr (ci, fs))) mc ms Q) : Ev g M d pc ls st h (mc + 1) (ms + k) Q := by
  subst hk
  exact ev_new n ci N hd hn kk
