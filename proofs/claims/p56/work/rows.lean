section
-- ===== PART A: goes FIRST, ahead of the names: the tables' words, and 'selects' of the private methods out of them =====
/-- a private method of a class that the tables say can be made, by its rows of tables_1 -/
def lw_okq (q : MethodName × Nat) : Prop := (q.1.cls ≠ "java/lang/invoke/MethodHandle" ∧ q.1.cls ≠ "java/lang/invoke/VarHandle") ∧ Cond.instantiable q.1.cls q.2 ∈ tables_1 ∧ Cond.privateMethod q.1 ∈ tables_1 ∧ Cond.instanceMethod q.1 ∈ tables_1
theorem lw_p0 : lw_okq (⟨"Prereqs", "isCourseSound", "(LPrereqs$Course;)Z"⟩, 12) := ⟨⟨by decide +kernel, by decide +kernel⟩, List.mem_of_getElem? (i := 34) (by decide +kernel), List.mem_of_getElem? (i := 224) (by decide +kernel), List.mem_of_getElem? (i := 225) (by decide +kernel)⟩
theorem lw_p1 : lw_okq (⟨"Prereqs", "takersOf", "(LPrereqs$Course;)I"⟩, 12) := ⟨⟨by decide +kernel, by decide +kernel⟩, List.mem_of_getElem? (i := 34) (by decide +kernel), List.mem_of_getElem? (i := 228) (by decide +kernel), List.mem_of_getElem? (i := 229) (by decide +kernel)⟩
theorem lw_p2 : lw_okq (⟨"Prereqs", "canTakeSeat", "(LPrereqs$Student;LPrereqs$Course;)Z"⟩, 12) := ⟨⟨by decide +kernel, by decide +kernel⟩, List.mem_of_getElem? (i := 34) (by decide +kernel), List.mem_of_getElem? (i := 232) (by decide +kernel), List.mem_of_getElem? (i := 233) (by decide +kernel)⟩
theorem lw_p3 : lw_okq (⟨"Prereqs", "freeFor", "(LPrereqs$Course;I)I"⟩, 12) := ⟨⟨by decide +kernel, by decide +kernel⟩, List.mem_of_getElem? (i := 34) (by decide +kernel), List.mem_of_getElem? (i := 236) (by decide +kernel), List.mem_of_getElem? (i := 237) (by decide +kernel)⟩
theorem lw_p4 : lw_okq (⟨"Prereqs", "takersOfMajor", "(LPrereqs$Course;I)I"⟩, 12) := ⟨⟨by decide +kernel, by decide +kernel⟩, List.mem_of_getElem? (i := 34) (by decide +kernel), List.mem_of_getElem? (i := 240) (by decide +kernel), List.mem_of_getElem? (i := 241) (by decide +kernel)⟩
theorem lw_p5 : lw_okq (⟨"Prereqs", "canBear", "(LPrereqs$Student;LPrereqs$Course;)Z"⟩, 12) := ⟨⟨by decide +kernel, by decide +kernel⟩, List.mem_of_getElem? (i := 34) (by decide +kernel), List.mem_of_getElem? (i := 247) (by decide +kernel), List.mem_of_getElem? (i := 248) (by decide +kernel)⟩
theorem lw_p6 : lw_okq (⟨"Prereqs", "loadOn", "(LPrereqs$Student;)I"⟩, 12) := ⟨⟨by decide +kernel, by decide +kernel⟩, List.mem_of_getElem? (i := 34) (by decide +kernel), List.mem_of_getElem? (i := 251) (by decide +kernel), List.mem_of_getElem? (i := 252) (by decide +kernel)⟩
theorem lw_p7 : lw_okq (⟨"Prereqs", "requisiteHolds", "(LPrereqs$Student;LPrereqs$Course;)Z"⟩, 12) := ⟨⟨by decide +kernel, by decide +kernel⟩, List.mem_of_getElem? (i := 34) (by decide +kernel), List.mem_of_getElem? (i := 255) (by decide +kernel), List.mem_of_getElem? (i := 256) (by decide +kernel)⟩
theorem lw_p8 : lw_okq (⟨"Prereqs", "truthsFor", "(LPrereqs$Student;)J"⟩, 12) := ⟨⟨by decide +kernel, by decide +kernel⟩, List.mem_of_getElem? (i := 34) (by decide +kernel), List.mem_of_getElem? (i := 259) (by decide +kernel), List.mem_of_getElem? (i := 260) (by decide +kernel)⟩
theorem lw_p9 : lw_okq (⟨"Prereqs", "creditsEarned", "(LPrereqs$Student;)I"⟩, 12) := ⟨⟨by decide +kernel, by decide +kernel⟩, List.mem_of_getElem? (i := 34) (by decide +kernel), List.mem_of_getElem? (i := 263) (by decide +kernel), List.mem_of_getElem? (i := 264) (by decide +kernel)⟩
theorem lw_p10 : lw_okq (⟨"Prereqs", "auditsAgree", "(LPrereqs$Student;)Z"⟩, 12) := ⟨⟨by decide +kernel, by decide +kernel⟩, List.mem_of_getElem? (i := 34) (by decide +kernel), List.mem_of_getElem? (i := 296) (by decide +kernel), List.mem_of_getElem? (i := 297) (by decide +kernel)⟩
theorem lw_p11 : lw_okq (⟨"Prereqs$Audit", "noteFits", "(LPrereqs$Rule;LPrereqs$Student;Z)V"⟩, 10) := ⟨⟨by decide +kernel, by decide +kernel⟩, List.mem_of_getElem? (i := 114) (by decide +kernel), List.mem_of_getElem? (i := 308) (by decide +kernel), List.mem_of_getElem? (i := 309) (by decide +kernel)⟩
theorem lw_p12 : lw_okq (⟨"Prereqs$Audit", "trials", "()I"⟩, 10) := ⟨⟨by decide +kernel, by decide +kernel⟩, List.mem_of_getElem? (i := 114) (by decide +kernel), List.mem_of_getElem? (i := 316) (by decide +kernel), List.mem_of_getElem? (i := 317) (by decide +kernel)⟩
theorem lw_p13 : lw_okq (⟨"Prereqs$Audit", "tryCourse", "(I)V"⟩, 10) := ⟨⟨by decide +kernel, by decide +kernel⟩, List.mem_of_getElem? (i := 114) (by decide +kernel), List.mem_of_getElem? (i := 320) (by decide +kernel), List.mem_of_getElem? (i := 321) (by decide +kernel)⟩
theorem lw_p14 : lw_okq (⟨"Prereqs$Audit", "isFit", "(II)Z"⟩, 10) := ⟨⟨by decide +kernel, by decide +kernel⟩, List.mem_of_getElem? (i := 114) (by decide +kernel), List.mem_of_getElem? (i := 324) (by decide +kernel), List.mem_of_getElem? (i := 325) (by decide +kernel)⟩
theorem lw_p15 : lw_okq (⟨"Prereqs$Audit", "mostTried", "(I)I"⟩, 10) := ⟨⟨by decide +kernel, by decide +kernel⟩, List.mem_of_getElem? (i := 114) (by decide +kernel), List.mem_of_getElem? (i := 331) (by decide +kernel), List.mem_of_getElem? (i := 332) (by decide +kernel)⟩
def lw_privs_1 : List (MethodName × Nat) := [(⟨"Prereqs", "isCourseSound", "(LPrereqs$Course;)Z"⟩, 12), (⟨"Prereqs", "takersOf", "(LPrereqs$Course;)I"⟩, 12), (⟨"Prereqs", "canTakeSeat", "(LPrereqs$Student;LPrereqs$Course;)Z"⟩, 12), (⟨"Prereqs", "freeFor", "(LPrereqs$Course;I)I"⟩, 12), (⟨"Prereqs", "takersOfMajor", "(LPrereqs$Course;I)I"⟩, 12), (⟨"Prereqs", "canBear", "(LPrereqs$Student;LPrereqs$Course;)Z"⟩, 12), (⟨"Prereqs", "loadOn", "(LPrereqs$Student;)I"⟩, 12), (⟨"Prereqs", "requisiteHolds", "(LPrereqs$Student;LPrereqs$Course;)Z"⟩, 12), (⟨"Prereqs", "truthsFor", "(LPrereqs$Student;)J"⟩, 12), (⟨"Prereqs", "creditsEarned", "(LPrereqs$Student;)I"⟩, 12), (⟨"Prereqs", "auditsAgree", "(LPrereqs$Student;)Z"⟩, 12), (⟨"Prereqs$Audit", "noteFits", "(LPrereqs$Rule;LPrereqs$Student;Z)V"⟩, 10), (⟨"Prereqs$Audit", "trials", "()I"⟩, 10), (⟨"Prereqs$Audit", "tryCourse", "(I)V"⟩, 10), (⟨"Prereqs$Audit", "isFit", "(II)Z"⟩, 10), (⟨"Prereqs$Audit", "mostTried", "(I)I"⟩, 10)]
theorem lw_r1 : ∀ q ∈ lw_privs_1, lw_okq q := List.forall_mem_cons.mpr ⟨lw_p0, List.forall_mem_cons.mpr ⟨lw_p1, List.forall_mem_cons.mpr ⟨lw_p2, List.forall_mem_cons.mpr ⟨lw_p3, List.forall_mem_cons.mpr ⟨lw_p4, List.forall_mem_cons.mpr ⟨lw_p5, List.forall_mem_cons.mpr ⟨lw_p6, List.forall_mem_cons.mpr ⟨lw_p7, List.forall_mem_cons.mpr ⟨lw_p8, List.forall_mem_cons.mpr ⟨lw_p9, List.forall_mem_cons.mpr ⟨lw_p10, List.forall_mem_cons.mpr ⟨lw_p11, List.forall_mem_cons.mpr ⟨lw_p12, List.forall_mem_cons.mpr ⟨lw_p13, List.forall_mem_cons.mpr ⟨lw_p14, List.forall_mem_cons.mpr ⟨lw_p15, fun _ h => absurd h List.not_mem_nil⟩⟩⟩⟩⟩⟩⟩⟩⟩⟩⟩⟩⟩⟩⟩⟩
theorem lw_p16 : lw_okq (⟨"Prereqs$Audit", "sumOf", "(I)I"⟩, 10) := ⟨⟨by decide +kernel, by decide +kernel⟩, List.mem_of_getElem? (i := 114) (by decide +kernel), List.mem_of_getElem? (i := 335) (by decide +kernel), List.mem_of_getElem? (i := 336) (by decide +kernel)⟩
theorem lw_p17 : lw_okq (⟨"Prereqs$Audit", "giveFrom", "(I)I"⟩, 10) := ⟨⟨by decide +kernel, by decide +kernel⟩, List.mem_of_getElem? (i := 114) (by decide +kernel), List.mem_of_getElem? (i := 347) (by decide +kernel), List.mem_of_getElem? (i := 348) (by decide +kernel)⟩
theorem lw_p18 : lw_okq (⟨"Prereqs$Audit", "give", "(I)Z"⟩, 10) := ⟨⟨by decide +kernel, by decide +kernel⟩, List.mem_of_getElem? (i := 114) (by decide +kernel), List.mem_of_getElem? (i := 351) (by decide +kernel), List.mem_of_getElem? (i := 352) (by decide +kernel)⟩
theorem lw_p19 : lw_okq (⟨"Prereqs$Audit", "findSlotsFor", "(II)I"⟩, 10) := ⟨⟨by decide +kernel, by decide +kernel⟩, List.mem_of_getElem? (i := 114) (by decide +kernel), List.mem_of_getElem? (i := 355) (by decide +kernel), List.mem_of_getElem? (i := 356) (by decide +kernel)⟩
theorem lw_p20 : lw_okq (⟨"Prereqs$Audit", "handOn", "(I)V"⟩, 10) := ⟨⟨by decide +kernel, by decide +kernel⟩, List.mem_of_getElem? (i := 114) (by decide +kernel), List.mem_of_getElem? (i := 359) (by decide +kernel), List.mem_of_getElem? (i := 360) (by decide +kernel)⟩
theorem lw_p21 : lw_okq (⟨"Prereqs$Audit", "ruleBits", "(I)I"⟩, 10) := ⟨⟨by decide +kernel, by decide +kernel⟩, List.mem_of_getElem? (i := 114) (by decide +kernel), List.mem_of_getElem? (i := 367) (by decide +kernel), List.mem_of_getElem? (i := 368) (by decide +kernel)⟩
theorem lw_p22 : lw_okq (⟨"java/lang/Throwable", "fillInStackTrace", "(I)Ljava/lang/Throwable;"⟩, 6) := ⟨⟨by decide +kernel, by decide +kernel⟩, List.mem_of_getElem? (i := 478) (by decide +kernel), List.mem_of_getElem? (i := 476) (by decide +kernel), List.mem_of_getElem? (i := 477) (by decide +kernel)⟩
theorem lw_p23 : lw_okq (⟨"java/util/ArrayList", "add", "(Ljava/lang/Object;[Ljava/lang/Object;I)V"⟩, 3) := ⟨⟨by decide +kernel, by decide +kernel⟩, List.mem_of_getElem? (i := 42) (by decide +kernel), List.mem_of_getElem? (i := 560) (by decide +kernel), List.mem_of_getElem? (i := 561) (by decide +kernel)⟩
theorem lw_p24 : lw_okq (⟨"java/util/ArrayList", "grow", "()[Ljava/lang/Object;"⟩, 3) := ⟨⟨by decide +kernel, by decide +kernel⟩, List.mem_of_getElem? (i := 42) (by decide +kernel), List.mem_of_getElem? (i := 564) (by decide +kernel), List.mem_of_getElem? (i := 565) (by decide +kernel)⟩
theorem lw_p25 : lw_okq (⟨"java/util/ArrayList", "grow", "(I)[Ljava/lang/Object;"⟩, 3) := ⟨⟨by decide +kernel, by decide +kernel⟩, List.mem_of_getElem? (i := 42) (by decide +kernel), List.mem_of_getElem? (i := 568) (by decide +kernel), List.mem_of_getElem? (i := 569) (by decide +kernel)⟩
theorem lw_p26 : lw_okq (⟨"Prereqs", "courseAt", "(I)LPrereqs$Course;"⟩, 12) := ⟨⟨by decide +kernel, by decide +kernel⟩, List.mem_of_getElem? (i := 34) (by decide +kernel), List.mem_of_getElem? (i := 635) (by decide +kernel), List.mem_of_getElem? (i := 636) (by decide +kernel)⟩
theorem lw_p27 : lw_okq (⟨"Prereqs", "checkFormulaFits", "(I)V"⟩, 12) := ⟨⟨by decide +kernel, by decide +kernel⟩, List.mem_of_getElem? (i := 34) (by decide +kernel), List.mem_of_getElem? (i := 659) (by decide +kernel), List.mem_of_getElem? (i := 660) (by decide +kernel)⟩
theorem lw_p28 : lw_okq (⟨"Prereqs", "keep", "(LPrereqs$Formula;)I"⟩, 12) := ⟨⟨by decide +kernel, by decide +kernel⟩, List.mem_of_getElem? (i := 34) (by decide +kernel), List.mem_of_getElem? (i := 684) (by decide +kernel), List.mem_of_getElem? (i := 685) (by decide +kernel)⟩
theorem lw_p29 : lw_okq (⟨"Prereqs", "formulaAt", "(I)LPrereqs$Formula;"⟩, 12) := ⟨⟨by decide +kernel, by decide +kernel⟩, List.mem_of_getElem? (i := 34) (by decide +kernel), List.mem_of_getElem? (i := 723) (by decide +kernel), List.mem_of_getElem? (i := 724) (by decide +kernel)⟩
theorem lw_p30 : lw_okq (⟨"Prereqs", "studentAt", "(I)LPrereqs$Student;"⟩, 12) := ⟨⟨by decide +kernel, by decide +kernel⟩, List.mem_of_getElem? (i := 34) (by decide +kernel), List.mem_of_getElem? (i := 793) (by decide +kernel), List.mem_of_getElem? (i := 794) (by decide +kernel)⟩
theorem lw_p31 : lw_okq (⟨"Prereqs", "letterFor", "(LPrereqs$Student;LPrereqs$Course;)C"⟩, 12) := ⟨⟨by decide +kernel, by decide +kernel⟩, List.mem_of_getElem? (i := 34) (by decide +kernel), List.mem_of_getElem? (i := 859) (by decide +kernel), List.mem_of_getElem? (i := 860) (by decide +kernel)⟩
def lw_privs_2 : List (MethodName × Nat) := [(⟨"Prereqs$Audit", "sumOf", "(I)I"⟩, 10), (⟨"Prereqs$Audit", "giveFrom", "(I)I"⟩, 10), (⟨"Prereqs$Audit", "give", "(I)Z"⟩, 10), (⟨"Prereqs$Audit", "findSlotsFor", "(II)I"⟩, 10), (⟨"Prereqs$Audit", "handOn", "(I)V"⟩, 10), (⟨"Prereqs$Audit", "ruleBits", "(I)I"⟩, 10), (⟨"java/lang/Throwable", "fillInStackTrace", "(I)Ljava/lang/Throwable;"⟩, 6), (⟨"java/util/ArrayList", "add", "(Ljava/lang/Object;[Ljava/lang/Object;I)V"⟩, 3), (⟨"java/util/ArrayList", "grow", "()[Ljava/lang/Object;"⟩, 3), (⟨"java/util/ArrayList", "grow", "(I)[Ljava/lang/Object;"⟩, 3), (⟨"Prereqs", "courseAt", "(I)LPrereqs$Course;"⟩, 12), (⟨"Prereqs", "checkFormulaFits", "(I)V"⟩, 12), (⟨"Prereqs", "keep", "(LPrereqs$Formula;)I"⟩, 12), (⟨"Prereqs", "formulaAt", "(I)LPrereqs$Formula;"⟩, 12), (⟨"Prereqs", "studentAt", "(I)LPrereqs$Student;"⟩, 12), (⟨"Prereqs", "letterFor", "(LPrereqs$Student;LPrereqs$Course;)C"⟩, 12)]
theorem lw_r2 : ∀ q ∈ lw_privs_2, lw_okq q := List.forall_mem_cons.mpr ⟨lw_p16, List.forall_mem_cons.mpr ⟨lw_p17, List.forall_mem_cons.mpr ⟨lw_p18, List.forall_mem_cons.mpr ⟨lw_p19, List.forall_mem_cons.mpr ⟨lw_p20, List.forall_mem_cons.mpr ⟨lw_p21, List.forall_mem_cons.mpr ⟨lw_p22, List.forall_mem_cons.mpr ⟨lw_p23, List.forall_mem_cons.mpr ⟨lw_p24, List.forall_mem_cons.mpr ⟨lw_p25, List.forall_mem_cons.mpr ⟨lw_p26, List.forall_mem_cons.mpr ⟨lw_p27, List.forall_mem_cons.mpr ⟨lw_p28, List.forall_mem_cons.mpr ⟨lw_p29, List.forall_mem_cons.mpr ⟨lw_p30, List.forall_mem_cons.mpr ⟨lw_p31, fun _ h => absurd h List.not_mem_nil⟩⟩⟩⟩⟩⟩⟩⟩⟩⟩⟩⟩⟩⟩⟩⟩
theorem lw_p32 : lw_okq (⟨"Prereqs", "giveOutSeats", "()V"⟩, 12) := ⟨⟨by decide +kernel, by decide +kernel⟩, List.mem_of_getElem? (i := 34) (by decide +kernel), List.mem_of_getElem? (i := 970) (by decide +kernel), List.mem_of_getElem? (i := 971) (by decide +kernel)⟩
theorem lw_p33 : lw_okq (⟨"Prereqs", "giveSeatIn", "(LPrereqs$Course;)Z"⟩, 12) := ⟨⟨by decide +kernel, by decide +kernel⟩, List.mem_of_getElem? (i := 34) (by decide +kernel), List.mem_of_getElem? (i := 974) (by decide +kernel), List.mem_of_getElem? (i := 975) (by decide +kernel)⟩
theorem lw_p34 : lw_okq (⟨"java/util/ArrayList", "fastRemove", "([Ljava/lang/Object;I)V"⟩, 3) := ⟨⟨by decide +kernel, by decide +kernel⟩, List.mem_of_getElem? (i := 42) (by decide +kernel), List.mem_of_getElem? (i := 982) (by decide +kernel), List.mem_of_getElem? (i := 983) (by decide +kernel)⟩
theorem lw_p35 : lw_okq (⟨"Prereqs", "endWithOthers", "(LPrereqs$Student;I)V"⟩, 12) := ⟨⟨by decide +kernel, by decide +kernel⟩, List.mem_of_getElem? (i := 34) (by decide +kernel), List.mem_of_getElem? (i := 997) (by decide +kernel), List.mem_of_getElem? (i := 998) (by decide +kernel)⟩
theorem lw_p36 : lw_okq (⟨"Prereqs", "isWithdrawalDay", "()Z"⟩, 12) := ⟨⟨by decide +kernel, by decide +kernel⟩, List.mem_of_getElem? (i := 34) (by decide +kernel), List.mem_of_getElem? (i := 1001) (by decide +kernel), List.mem_of_getElem? (i := 1002) (by decide +kernel)⟩
theorem lw_p37 : lw_okq (⟨"Prereqs", "firstUnmet", "(LPrereqs$Student;)I"⟩, 12) := ⟨⟨by decide +kernel, by decide +kernel⟩, List.mem_of_getElem? (i := 34) (by decide +kernel), List.mem_of_getElem? (i := 1010) (by decide +kernel), List.mem_of_getElem? (i := 1011) (by decide +kernel)⟩
theorem lw_p38 : lw_okq (⟨"Prereqs", "emptyWaitingLists", "()V"⟩, 12) := ⟨⟨by decide +kernel, by decide +kernel⟩, List.mem_of_getElem? (i := 34) (by decide +kernel), List.mem_of_getElem? (i := 1029) (by decide +kernel), List.mem_of_getElem? (i := 1030) (by decide +kernel)⟩
theorem lw_p39 : lw_okq (⟨"Prereqs", "creditsMovedIn", "(LPrereqs$Student;)I"⟩, 12) := ⟨⟨by decide +kernel, by decide +kernel⟩, List.mem_of_getElem? (i := 34) (by decide +kernel), List.mem_of_getElem? (i := 1086) (by decide +kernel), List.mem_of_getElem? (i := 1087) (by decide +kernel)⟩
def lw_privs_3 : List (MethodName × Nat) := [(⟨"Prereqs", "giveOutSeats", "()V"⟩, 12), (⟨"Prereqs", "giveSeatIn", "(LPrereqs$Course;)Z"⟩, 12), (⟨"java/util/ArrayList", "fastRemove", "([Ljava/lang/Object;I)V"⟩, 3), (⟨"Prereqs", "endWithOthers", "(LPrereqs$Student;I)V"⟩, 12), (⟨"Prereqs", "isWithdrawalDay", "()Z"⟩, 12), (⟨"Prereqs", "firstUnmet", "(LPrereqs$Student;)I"⟩, 12), (⟨"Prereqs", "emptyWaitingLists", "()V"⟩, 12), (⟨"Prereqs", "creditsMovedIn", "(LPrereqs$Student;)I"⟩, 12)]
theorem lw_r3 : ∀ q ∈ lw_privs_3, lw_okq q := List.forall_mem_cons.mpr ⟨lw_p32, List.forall_mem_cons.mpr ⟨lw_p33, List.forall_mem_cons.mpr ⟨lw_p34, List.forall_mem_cons.mpr ⟨lw_p35, List.forall_mem_cons.mpr ⟨lw_p36, List.forall_mem_cons.mpr ⟨lw_p37, List.forall_mem_cons.mpr ⟨lw_p38, List.forall_mem_cons.mpr ⟨lw_p39, fun _ h => absurd h List.not_mem_nil⟩⟩⟩⟩⟩⟩⟩⟩
def lw_privs : List (MethodName × Nat) := lw_privs_1 ++ (lw_privs_2 ++ (lw_privs_3))
def lw_tbl : List Cond := k2_sels lw_privs ++ tables_1
theorem lw_privs_ok : ∀ q ∈ lw_privs, lw_okq q := by
  show ∀ q ∈ lw_privs_1 ++ (lw_privs_2 ++ (lw_privs_3)), lw_okq q
  exact List.forall_mem_append.mpr ⟨lw_r1, List.forall_mem_append.mpr ⟨lw_r2, lw_r3⟩⟩
def va_AOA (ty : FieldType) (U : State) : Prop := (Cond.arrayOver (.array ty)).before #[] U = true
theorem va_AOA.use {ty : FieldType} {A : Array Value} {U : State} (h : va_AOA ty U) : (Cond.arrayOver (.array ty)).before A U = true := h
/-! ===== BEGIN words of one list among another's, by their places ===== -/
theorem goodIn_r {big : List Cond} (ws : List Cond) (ps : List Nat) (hp : ws = ps.filterMap (fun i => big[i]?)) (h : ws.all goodWord = true) : GoodIn big ws := by
  intro w hw
  have h1 := List.all_eq_true.mp h w hw
  rw [hp] at hw
  obtain ⟨i, -, hi⟩ := List.mem_filterMap.mp hw
  have hm : w ∈ big := by first | exact List.mem_of_getElem? hi | exact List.getElem?_mem hi
  exact ⟨hm, good_of_word h1⟩
theorem goodIn_app {big a b : List Cond} (ha : GoodIn big a) (hb : GoodIn big b) : GoodIn big (a ++ b) := fun w h => (List.mem_append.mp h).elim (ha w) (hb w)
theorem goodIn_ca {big a b : List Cond} {c : Cond} (ha : GoodIn big (c :: a)) (hb : GoodIn big b) : GoodIn big (c :: (a ++ b)) := fun w h => (List.mem_cons.mp h).elim (fun e => ha w (List.mem_cons.mpr (Or.inl e))) (fun h => (List.mem_append.mp h).elim (fun h => ha w (List.mem_cons.mpr (Or.inr h))) (hb w))
theorem goodIn_sub {big ws : List Cond} (hm : ∀ w ∈ ws, w ∈ big) (h : ws.all goodWord = true) : GoodIn big ws := fun w hw => ⟨hm w hw, good_of_word (List.all_eq_true.mp h w hw)⟩
/-! ===== END ===== -/

/-! ===== BEGIN new T[n][m]: the outer array a place, the inner ones among the pooled ===== -/
/-- f, but v at every address of l -/
def vr_up {α : Type} (f : Nat → α) (l : List Nat) (v : α) : Nat → α := fun a => if a ∈ l then v else f a
theorem vr_up_in {α : Type} {f : Nat → α} {l : List Nat} {v : α} {a : Nat} (h : a ∈ l) : vr_up f l v a = v := if_pos h
theorem vr_up_ne {α : Type} {f : Nat → α} {l : List Nat} {v : α} {a : Nat} (h : a ∉ l) : vr_up f l v a = f a := if_neg h
theorem vr_rows {L l : List Nat} {f : Nat → va_E} {e : va_E} (h : ∀ a, a ∈ l → a ∉ L) : va_pl L f ++ l.map (fun a => (a, e)) = va_pl (L ++ l) (vr_up f l e) := by
  unfold va_pl
  rw [List.map_append]
  congr 1
  · apply List.map_congr_left
    intro a ha
    rw [vr_up_ne (fun q => h a q ha)]
  · apply List.map_congr_left
    intro a ha
    rw [vr_up_in ha]
theorem vr_lay {X rows : va_W} {x : Nat × va_E} {pl : va_W} {D : va_G} {cl : List vw_C} {H : Heap} (hP : va_P D cl (((X ++ pl) ++ [x]) ++ rows) H) : va_P D cl ((X ++ [x]) ++ (pl ++ rows)) H := by
  rw [List.append_assoc (X ++ pl)] at hP
  have h := va_P.swap hP
  rw [← List.append_assoc X] at h
  have h2 := va_P.swap h
  rw [List.append_assoc (X ++ [x])] at h2
  exact h2
theorem vr_layD {X rows : va_W} {x : Nat × va_E} {pl : va_W} {A : Nat → Prop} (hD : va_D A (((X ++ pl) ++ [x]) ++ rows)) : va_D A ((X ++ [x]) ++ (pl ++ rows)) := by
  rw [List.append_assoc (X ++ pl)] at hD
  have h := va_D.swap hD
  rw [← List.append_assoc X] at h
  have h2 := va_D.swap h
  rw [List.append_assoc (X ++ [x])] at h2
  exact h2
theorem vr_outer (c : ClassId) (N h0 : Nat) : ∀ i : Nat, Jvm.Free.Multi.outerC c N h0 i = arrV c N (fun j => va_rf (if j < i then some (h0 + 1 + j) else none))
  | 0 => by
    show ({ cls := c, slots := Array.replicate N .null, vm := .none } : Cell) = _
    rw [arrV_new]
    refine congrArg (arrV c N) (funext fun j => ?_)
    simp [va_rf]
  | i + 1 => by
    show (Jvm.Free.Multi.outerC c N h0 i).setSlot i (.ref (h0 + 1 + i)) = _
    rw [vr_outer c N h0 i, arrV_store]
    refine congrArg (arrV c N) (funext fun j => ?_)
    by_cases e : j = i
    · subst e
      simp [updV, va_rf]
    · by_cases h : j < i
      · simp [updV, e, h, Nat.lt_succ_of_lt h]
      · simp [updV, e, h, show ¬ j < i + 1 by omega]
section VGM
variable {p : Program} {l : Launch} {e : Env} {R : Room} {s : State} {m : MethodId} {args : Array Value} {below : List Frame} {meth : Method} {c : Code} {H : Heap} {locs : List Loc} {cells slots : Nat} {Q : State → Prop}
variable {cc : ByteArray} {pc : Nat} {ls : Array Slot} {rest : List Value} {D : va_G} {cl : List vw_C} {A : Nat → Prop} {a : Nat} {tys : List (ClassId × FieldType)} {ws : va_W} {H0 : Heap}
theorem va_mna {X : va_W} {L : List Nat} {f : Nat → va_E} {cc : ByteArray} (hexec : p.tables.exec = Jvm.exec) (hb : c.code = cc) {own : String} {index : Nat} {ty : FieldType} {cy : ClassId} (hown : s.vm.findClass own = some m.cls) (hclink : (Cond.classLink own index ("[" ++ (FieldType.array ty).toString)).before args s = true) (hover : va_AOA ty s) (harr : (Cond.arrayClass ty).before args s = true) (hcy : s.vm.findClass (FieldType.array ty).toString = some cy)
    (hK : va_K D cl tys s) (hP : va_P D cl (X ++ va_pl L f) H) (hD : va_D A (X ++ va_pl L f)) (hS : va_S A H0 H locs) (hA : ∀ q, H0.size ≤ q → A q) {n k : Int32} {N' K' : Nat} {z : vp_A} (hn : ¬ n < 0) (hk : ¬ k < 0) (hN : n.toNatClampNeg = N') (hM : k.toNatClampNeg = K')
    (hb1 : N' * 4 ≤ 536870912) (hb2 : K' * componentBytes ty ≤ 536870912) (hb3 : K' ≤ 536870912) (hdf : fits ty (defaultValue ty) = true) (hdd : (defaultValue ty).isDefault = true) (hcells : cells + (1 + N') ≤ R.cells) (hslots : slots + (N' + N' * K') ≤ R.slots) (hz : ∀ c : ClassId, Jvm.Free.Multi.innerC c K' (defaultValue ty) = vp_cell c z) (hdg : decode cc pc = .ok (.multianewarray index 2, 4))
    (kk : ∀ (q : Nat) (r : Nat → Nat) (cA : ClassId) (H1 : Heap), (∀ i j : Nat, i < N' → j < N' → r i = r j → i = j) → (∀ i : Nat, i < N' → r i ∉ L) → va_K D cl (tys ++ [(cA, .array ty)]) s →
      va_P D cl ((X ++ [(q, .inl (cA, N', .inr (.inr (.inr (.inr (fun i => if i < N' then some (r i) else none))))))]) ++ va_pl (L ++ (List.range N').map r) (vr_up f ((List.range N').map r) (.inl (cy, z)))) H1 → va_D A ((X ++ [(q, .inl (cA, N', .inr (.inr (.inr (.inr (fun i => if i < N' then some (r i) else none))))))]) ++ va_pl (L ++ (List.range N').map r) (vr_up f ((List.range N').map r) (.inl (cy, z)))) → va_S A H0 H1 locs →
      W p l e R s m args below meth c H1 locs (cells + 1 + N') (slots + N' + N' * K') Q (F0 m (pc + 4) ls (.ref q :: rest))) : W p l e R s m args below meth c H locs cells slots Q (F0 m pc ls (.int k :: .int n :: rest)) := by
  subst hN
  subst hM
  intro T hT Xs
  obtain ⟨vm₁, cA, comp, -, fA, fC, hO, -, X', step⟩ := Xs.multianewarray2F hexec hown hclink (va_AOA.use hover) harr (g := F0 m pc ls (.int k :: .int n :: rest)) rfl (by rw [hb]; exact hdg) rfl hn hk hb1 hb2 hb3 hdf hdd hcells hslots
  have ec : some cy = some comp := hcy.symm.trans fC
  cases ec
  generalize hF : Jvm.Free.Multi.fill (T.setVm vm₁) cA cy n.toNatClampNeg k.toNatClampNeg (defaultValue ty) n.toNatClampNeg = F at X' step
  have hTh : (T.setVm vm₁).heap = H := hT
  obtain ⟨f1, f2, -, -⟩ := Jvm.Free.Multi.fill_facts (T.setVm vm₁) cA cy n.toNatClampNeg k.toNatClampNeg (defaultValue ty) n.toNatClampNeg
  rw [hF, hTh] at f1 f2
  have hold : ∀ x : Nat, x < H.size → F.heap[x]? = H[x]? := fun x hx => by
    have := Jvm.Free.Multi.fill_old (T.setVm vm₁) cA cy n.toNatClampNeg k.toNatClampNeg (defaultValue ty) (a := x) (by rw [hTh]; exact hx) n.toNatClampNeg
    rw [hF, hTh] at this
    exact this
  have hrow : ∀ j : Nat, j < n.toNatClampNeg → F.heap[H.size + 1 + j]? = some (vp_cell cy z) := fun j hj => by
    have := Jvm.Free.Multi.fill_inner (T.setVm vm₁) cA cy n.toNatClampNeg k.toNatClampNeg (defaultValue ty) n.toNatClampNeg j hj
    rw [hF, hTh, hz] at this
    exact this
  have hout : Jvm.Free.Multi.outerC cA n.toNatClampNeg H.size n.toNatClampNeg = vp_cell cA (n.toNatClampNeg, .inr (.inr (.inr (.inr (fun i => if i < n.toNatClampNeg then some (H.size + 1 + i) else none))))) := by
    rw [vp_cell_q]
    exact vr_outer cA n.toNatClampNeg H.size n.toNatClampNeg
  rw [hout] at f2
  have hlt : ∀ a, a ∈ L → a < H.size := fun a ha => by
    obtain ⟨k9, hk9⟩ := va_pl_get (X := X) (f := f) ha
    exact (hP k9 _ hk9).lt
  have hnl : ∀ i : Nat, i < n.toNatClampNeg → H.size + 1 + i ∉ L := fun i _ h => by
    have := hlt _ h
    omega
  have hnm : ∀ a, a ∈ (List.range n.toNatClampNeg).map (fun i => H.size + 1 + i) → a ∉ L := fun a ha h => by
    obtain ⟨i, -, rfl⟩ := List.mem_map.mp ha
    have := hlt _ h
    omega
  have hP0 : va_P D cl (X ++ va_pl L f) F.heap := hP.kept (fun k9 x hx => hold x.1 ((hP k9 x hx).lt))
  have hP1 : va_P D cl ((X ++ va_pl L f) ++ [(H.size, .inl (cA, n.toNatClampNeg, .inr (.inr (.inr (.inr (fun i => if i < n.toNatClampNeg then some (H.size + 1 + i) else none))))))]) F.heap := hP0.app (fun k9 x hx => by
    have h0 : k9 < 1 := (List.getElem?_eq_some_iff.mp hx).1
    rw [show k9 = 0 by omega] at hx
    cases hx
    exact f2)
  have hP2 : va_P D cl (((X ++ va_pl L f) ++ [(H.size, .inl (cA, n.toNatClampNeg, .inr (.inr (.inr (.inr (fun i => if i < n.toNatClampNeg then some (H.size + 1 + i) else none))))))]) ++ ((List.range n.toNatClampNeg).map (fun i => H.size + 1 + i)).map (fun a => (a, .inl (cy, z)))) F.heap := hP1.app (fun k9 x hx => by
    obtain ⟨a, ha, rfl⟩ := List.mem_map.mp (List.mem_of_getElem? hx)
    obtain ⟨i, hi, rfl⟩ := List.mem_map.mp ha
    exact hrow i (List.mem_range.mp hi))
  have hD2 : va_D A (((X ++ va_pl L f) ++ [(H.size, .inl (cA, n.toNatClampNeg, .inr (.inr (.inr (.inr (fun i => if i < n.toNatClampNeg then some (H.size + 1 + i) else none))))))]) ++ ((List.range n.toNatClampNeg).map (fun i => H.size + 1 + i)).map (fun a => (a, .inl (cy, z)))) := by
    have hD1 := hD.push (e := .inl (cA, n.toNatClampNeg, .inr (.inr (.inr (.inr (fun i => if i < n.toNatClampNeg then some (H.size + 1 + i) else none)))))) hP rfl (hA _ hS.1)
    generalize hW1 : (X ++ va_pl L f) ++ [(H.size, .inl (cA, n.toNatClampNeg, .inr (.inr (.inr (.inr (fun i => if i < n.toNatClampNeg then some (H.size + 1 + i) else none))))))] = W1 at hD1 hP1 ⊢
    have hle : ∀ (k9 : Nat) (x : Nat × va_E), W1[k9]? = some x → x.1 ≤ H.size := fun k9 x hx => by
      rw [← hW1] at hx
      by_cases hl : k9 < (X ++ va_pl L f).length
      · rw [List.getElem?_append_left hl] at hx
        exact Nat.le_of_lt ((hP k9 x hx).lt)
      · rw [List.getElem?_append_right (by omega)] at hx
        have h0 : k9 - (X ++ va_pl L f).length < 1 := (List.getElem?_eq_some_iff.mp hx).1
        rw [show k9 - (X ++ va_pl L f).length = 0 by omega] at hx
        cases hx
        exact Nat.le_refl _
    have hr : ∀ (k9 : Nat) (x : Nat × va_E), (((List.range n.toNatClampNeg).map (fun i => H.size + 1 + i)).map (fun a => ((a, .inl (cy, z)) : Nat × va_E)))[k9]? = some x → x.1 = H.size + 1 + k9 := fun k9 x hx => by
      rw [List.getElem?_map, List.getElem?_map] at hx
      by_cases h9 : k9 < n.toNatClampNeg
      · rw [List.getElem?_range h9] at hx
        cases hx
        rfl
      · have hn0 : (List.range n.toNatClampNeg)[k9]? = none := List.getElem?_eq_none (by rw [List.length_range]; omega)
        rw [hn0] at hx
        cases hx
    refine ⟨fun i j x y hi hj hxy => ?_, fun k9 x hx => ?_⟩
    · by_cases h1 : i < W1.length <;> by_cases h2 : j < W1.length
      · rw [List.getElem?_append_left h1] at hi
        rw [List.getElem?_append_left h2] at hj
        exact hD1.1 i j x y hi hj hxy
      · rw [List.getElem?_append_left h1] at hi
        rw [List.getElem?_append_right (by omega)] at hj
        have := hle _ _ hi
        have := hr _ _ hj
        omega
      · rw [List.getElem?_append_right (by omega)] at hi
        rw [List.getElem?_append_left h2] at hj
        have := hle _ _ hj
        have := hr _ _ hi
        omega
      · rw [List.getElem?_append_right (by omega)] at hi hj
        have := hr _ _ hi
        have := hr _ _ hj
        omega
    · by_cases h1 : k9 < W1.length
      · rw [List.getElem?_append_left h1] at hx
        exact hD1.2 k9 x hx
      · rw [List.getElem?_append_right (by omega)] at hx
        have := hr _ _ hx
        exact hA _ (by have := hS.1; omega)
  have hAr : ArrOfT s cA (.array ty) := fun N9 z9 => by
    obtain ⟨-, k9, hk9, cm9, hkk9⟩ := (hO 0 0 0).1
    exact ⟨(fun q hq => by cases hq), k9, hk9, cm9, hkk9⟩
  have hK2 : va_K D cl (tys ++ [(cA, .array ty)]) s := ⟨hK.1, fun k9 x hx => by
    by_cases hl : k9 < tys.length
    · rw [List.getElem?_append_left hl] at hx
      exact hK.2 k9 x hx
    · rw [List.getElem?_append_right (by omega)] at hx
      have h0 : k9 - tys.length < 1 := (List.getElem?_eq_some_iff.mp hx).1
      rw [show k9 - tys.length = 0 by omega] at hx
      cases hx
      exact ⟨hAr, fA⟩⟩
  obtain ⟨t, a1, b1⟩ := kk H.size (fun i => H.size + 1 + i) cA F.heap (fun i j _ _ h => by have h9 : H.size + 1 + i = H.size + 1 + j := h; omega) hnl hK2 (by rw [← vr_rows hnm]; exact vr_lay hP2) (by rw [← vr_rows hnm]; exact vr_layD hD2) ⟨by rw [f1]; have := hS.1; omega, fun x h1 h2 => (hold x (Nat.lt_of_lt_of_le h1 hS.1)).trans (hS.2.1 x h1 h2), hS.2.2⟩ F rfl X'
  refine ⟨t, step t ?_, b1⟩
  have e : T.heap.size = H.size := by rw [hT]
  rw [e]
  exact a1
end VGM
/-! ===== END ===== -/

/-! ===== BEGIN exceptions that leave a method, and their catching by the caller (launches without stack traces) ===== -/
section VXA
/-! The laws vx_back, vx_callV, vx_callS, vx_callSW, vx_throw0, vx_throwS follow proofs of the library, with one case more: JvmDerived/Free/Laws.lean (Back.of_free), Shelf42/LK1.lean (callV, callS), Shelf/KitTraced.lean (throwNew0V, throwNewS). -/
/-- where a method has thrown q: the class by its name, the cell, what was written, the world -/
def vx_T (XC : String → State → State → Prop) (st : State) (q : Addr) (t : State) (mc ms : Nat) (free : Addr → Prop) : Prop :=
  ∃ (E : String) (ce : Cell) (L : List Loc), XC E st t ∧ t.heap[q]? = some ce ∧ ce.vm = .none ∧ st.vm.findClass E = some ce.cls ∧ st.WarmedH t.vm ∧ st.sameButNew ({ t with vm := st.vm } : State) L mc ms ∧ ∀ z ∈ L, free z.base
def vx_Q (Qc : Array Value → State → Outcome → State → Prop) (XC : String → State → State → Prop) (mc ms : Nat) (free : Addr → Prop) : Array Value → State → Outcome → State → Prop := fun a st o t =>
  (Qc a st o t ∧ ∃ L, FrameEnd st o t L mc ms ∧ ∀ q ∈ L, free q.base) ∨ ∃ q, o = .threw q ∧ vx_T XC st q t mc ms free
/-- a callee that returns or throws -/
def vx_Met (l : Launch) (y : MethodName) (ws : List Cond) (rm : Room) (Pc : Array Value → State → Prop) (Qc : Array Value → State → Outcome → State → Prop) (XC : String → State → State → Prop) (mc ms : Nat) (free : Addr → Prop) : Prop :=
  MetFree l y (headSpec ws rm) Pc (fun _ _ _ _ _ => True) (vx_Q Qc XC mc ms free)
def vx_Post (XC : String → State → State → Prop) (mc ms : Nat) (free : Addr → Prop) : Pt → Array Value → Addr → Pt → Prop := fun A a q B =>
  ∃ (g : JFrame) (mk : MethodId) (t : State) (L : List Loc) (E : String) (ce : Cell), B.U.heap = t.heap ∧ B.U.vm = t.vm ∧ XC E (A.U.calling g mk a) t ∧ t.heap[q]? = some ce ∧ ce.vm = .none ∧ A.U.vm.findClass E = some ce.cls ∧ B.locs = A.locs ++ L ∧ (∀ z ∈ L, free z.base) ∧ B.cells = A.cells + mc ∧ B.slots = A.slots + ms
def vx_Back (l : Launch) (R : Room) (p : Program) (e : Env) (below : List Frame) (s : State) (sargs : Array Value) (y : MethodName) (len W9 : Nat)
    (Pre : Pt → Array Value → Prop) (Post : Pt → Array Value → Option Value → Pt → Prop) (PostX : Pt → Array Value → Addr → Pt → Prop) : Prop :=
  ∀ (m : MethodId) (meth : Method) (c : Code) (A : Pt) (g : JFrame) (ig : Instr) (mk : MethodId) (a : Array Value),
    Stand p l e R s m sargs below meth c A.U A.locs A.cells A.slots → g.method = m → g.locals.size = c.maxLocals → decode c.code g.pc = .ok (ig, len) →
    2 * g.monitorRoom + (g.stack.map fun v => v.category).sum ≤ W9 → A.U.methodNamed? y = some mk → Pre A a →
    (∃ (v : Option Value) (B : Pt), Stand p l e R s m sargs below meth c B.U B.locs B.cells B.slots ∧ Post A a v B ∧
      Steps p.tables e below (doInvoke e (A.U.setTop g) [] mk a).1 (B.U.setTop { g with pc := g.pc + len, stack := v.toList ++ g.stack })) ∨
    (∃ (q : Addr) (B : Pt), Stand p l e R s m sargs below meth c B.U B.locs B.cells B.slots ∧ PostX A a q B ∧
      Steps p.tables e below (doInvoke e (A.U.setTop g) [] mk a).1 ((B.U.setTop g).pushFrame (.throwing q)))
section Payer
variable {l : Launch} {R : Room} {p : Program} {e : Env} {below : List Frame} {s : State} {sargs : Array Value} {y : MethodName} {len W9 : Nat}
theorem vx_back {ws : List Cond} {rm : Room} {Pc : Array Value → State → Prop} {Qc : Array Value → State → Outcome → State → Prop} {XC : String → State → State → Prop} {mc ms : Nat} {free : Addr → Prop} {bytes : ByteArray} {maxL : Nat} {ret : Option FieldType}
    (hM : vx_Met l y ws rm Pc Qc XC mc ms free) (hblind : FrameBlind Pc) (hrc : rm.cells = mc) (hrs : rm.slots = ms)
    (hframes : rm.frames + 1 ≤ R.frames) (hlocals : W9 + (maxL + 11) + rm.locals ≤ R.locals)
    (hws : ∀ w ∈ ws, ∀ a' U, s.WarmedH U.vm → w.before a' U = true) (hcode : Cond.code y bytes maxL ret ∈ ws) (hinit : ∀ a' U, s.WarmedH U.vm → (Cond.initialized y.cls).before a' U = true) :
    vx_Back l R p e below s sargs y len W9 (PreOf R mc ms Pc) (PostOf Qc mc ms free) (vx_Post XC mc ms free) := by
  intro m meth c A g ig mk a X hg hsize hdg hW hn hp
  have h1 : (headSpec ws rm).pre.before a A.U = true := atoms_intro fun w hw => hws w hw _ _ X.warmed
  have h2 : (Cond.code y bytes maxL ret).before a A.U = true := hws _ hcode _ _ X.warmed
  have h3 : (Cond.initialized y.cls).before a A.U = true := hinit _ _ X.warmed
  have h4 : A.cells + (headSpec ws rm).room.cells ≤ R.cells := by rw [show (headSpec ws rm).room.cells = mc from hrc]; exact hp.1
  have h5 : A.slots + (headSpec ws rm).room.slots ≤ R.slots := by rw [show (headSpec ws rm).room.slots = ms from hrs]; exact hp.2.1
  have hPc : Pc a (A.U.calling g mk a) := hblind _ _ _ _ hp.2.2
  obtain ⟨U, Ls, c0, s0⟩ := A
  dsimp only [Pt.U, Pt.locs, Pt.cells, Pt.slots] at h1 h2 h3 h4 h5 X hn hPc ⊢
  obtain ⟨methY, cY, hmY, hcY, -, hlY, -, -, -, -⟩ := Cond.code_spec hn h2
  obtain ⟨kY, hkY, -⟩ := className_of_methodNamed hn
  have hinitY : kY.init = .initialized := Cond.initialized_spec (findClass_of_methodNamed hn) hkY h3
  have h : At U g.method c below := by rw [hg]; exact X.here
  have hlocals9 : W9 + (maxL + 11) + (headSpec ws rm).room.locals ≤ R.locals := hlocals
  have happ : (headSpec ws rm).appliesLoose y e.platform (U.calling g mk a) = true :=
    Spec.appliesLoose_calling (g := g) h hdg hn hkY hinitY
      (X.room_calling (g := g) (R' := (headSpec ws rm).room) hsize hmY hcY hframes (by rw [hlY]; omega) h4 h5) h1
  obtain ⟨mid, hmid⟩ := h.above
  have hfr : (U.setTop g).frames = (.java g :: mid) ++ below := by rw [State.frames_setTop' g h.top, hmid]; rfl
  obtain ⟨o, s₂, hsteps, -, hend, hq⟩ := Steps.callFree hM p X.admits X.cas X.clock (acts := []) hfr happ hPc trivial
  have hq' : vx_Q Qc XC mc ms free a (U.calling g mk a) o s₂ := hq
  rw [State.frames_setTop' g h.top] at hend
  obtain ⟨g₀, hg0⟩ := Option.isSome_iff_exists.mp h.top
  obtain ⟨r, hr⟩ := State.topJava?_eq_some.mp hg0
  have hr' : (({ U with heap := s₂.heap, slotsUsed := s₂.slotsUsed } : State).setVm s₂.vm).frames = .java g₀ :: r := hr
  rcases hq' with ⟨hqc, L, hfe, hL⟩ | ⟨q, rfl, E, ce, L, hx, hce, hcv, hcl, hW₂, hsm, hL⟩
  · obtain ⟨⟨v, rfl⟩, hW₂, e2, q2, q3, q4, q5, q6⟩ := id hfe
    have e3 : s₂ = ({ (U.calling g mk a).setFrames s₂.frames with heap := s₂.heap, slotsUsed := s₂.slotsUsed } : State).setVm s₂.vm := by
      have : s₂ = ({ s₂ with vm := (U.calling g mk a).vm } : State).setVm s₂.vm := rfl
      rw [e2] at this
      exact this
    obtain ⟨c₂, i₂, len₂, hc₂, hd₂, hf₂⟩ := hend
    have hW' : U.WarmedH s₂.vm := hW₂
    have hcc : c₂ = c := by
      have h1 : s₂.code? g.method = U.code? g.method := by
        rw [State.code?_eq, State.code?_eq, hW'.alike.method?]
      exact Option.some.inj (hc₂.symm.trans (h1.trans h.code))
    subst hcc
    have hlen : len₂ = len := by rw [hdg] at hd₂; cases hd₂; rfl
    subst hlen
    have hs₂ : s₂ = (({ U with heap := s₂.heap, slotsUsed := s₂.slotsUsed } : State).setVm s₂.vm).setTop { g with pc := g.pc + len₂, stack := v.toList ++ g.stack } := by
      refine e3.trans ?_
      rw [hf₂, State.calling_eq h.top, State.setFrames_setFrames, State.setTop_of_frames _ hr', hr]
      rfl
    have hsame : U.sameButNew ({ U with heap := s₂.heap, slotsUsed := s₂.slotsUsed } : State) L mc ms := by
      refine ⟨?_, q2, q3, q4, q5, q6⟩
      obtain ⟨t, ht, -⟩ := State.frames_cons hr
      show ({ U with heap := s₂.heap, slotsUsed := s₂.slotsUsed } : State) = { U.setFrames U.frames with heap := s₂.heap, slotsUsed := s₂.slotsUsed }
      rw [State.setFrames_self ht]
    subst hg
    refine Or.inl ⟨v, ⟨(({ U with heap := s₂.heap, slotsUsed := s₂.slotsUsed } : State).setVm s₂.vm), Ls ++ L, c0 + mc, s0 + ms⟩,
      ⟨X.admits, X.cas, X.clock, X.frames, X.room, X.hears, X.method, X.code, (X.here.setHeapUsed s₂.heap s₂.slotsUsed).setVm hW'.alike, X.tail, State.WarmedH.trans X.warmed hW', X.limits, X.bytes, X.same.trans (hsame.setVm s.vm)⟩,
      ⟨g, mk, s₂, L, rfl, rfl, hqc, rfl, hL, rfl, rfl⟩, ?_⟩
    show Steps p.tables e below _ ((({ U with heap := s₂.heap, slotsUsed := s₂.slotsUsed } : State).setVm s₂.vm).setTop { g with pc := g.pc + len₂, stack := v.toList ++ g.stack })
    rw [← hs₂]
    exact hsteps
  · obtain ⟨e2, q2, q3, q4, q5, q6⟩ := id hsm
    have e3 : s₂ = ({ (U.calling g mk a).setFrames s₂.frames with heap := s₂.heap, slotsUsed := s₂.slotsUsed } : State).setVm s₂.vm := by
      have : s₂ = ({ s₂ with vm := (U.calling g mk a).vm } : State).setVm s₂.vm := rfl
      rw [e2] at this
      exact this
    have hf₂ : s₂.frames = .throwing q :: .java g :: U.frames.tail := hend
    have hW' : U.WarmedH s₂.vm := hW₂
    have hs₂ : s₂ = ((({ U with heap := s₂.heap, slotsUsed := s₂.slotsUsed } : State).setVm s₂.vm).setTop g).pushFrame (.throwing q) := by
      refine e3.trans ?_
      rw [hf₂, State.calling_eq h.top, State.setFrames_setFrames, State.pushFrame, State.frames_setTop _ hr', State.setTop_of_frames _ hr', State.setFrames_setFrames, hr]
      rfl
    have hsame : U.sameButNew ({ U with heap := s₂.heap, slotsUsed := s₂.slotsUsed } : State) L mc ms := by
      refine ⟨?_, q2, q3, q4, q5, q6⟩
      obtain ⟨t, ht, -⟩ := State.frames_cons hr
      show ({ U with heap := s₂.heap, slotsUsed := s₂.slotsUsed } : State) = { U.setFrames U.frames with heap := s₂.heap, slotsUsed := s₂.slotsUsed }
      rw [State.setFrames_self ht]
    subst hg
    refine Or.inr ⟨q, ⟨(({ U with heap := s₂.heap, slotsUsed := s₂.slotsUsed } : State).setVm s₂.vm), Ls ++ L, c0 + mc, s0 + ms⟩,
      ⟨X.admits, X.cas, X.clock, X.frames, X.room, X.hears, X.method, X.code, (X.here.setHeapUsed s₂.heap s₂.slotsUsed).setVm hW'.alike, X.tail, State.WarmedH.trans X.warmed hW', X.limits, X.bytes, X.same.trans (hsame.setVm s.vm)⟩,
      ⟨g, mk, s₂, L, E, ce, rfl, rfl, hx, hce, hcv, hcl, rfl, hL, rfl, rfl⟩, ?_⟩
    show Steps p.tables e below _ (((({ U with heap := s₂.heap, slotsUsed := s₂.slotsUsed } : State).setVm s₂.vm).setTop g).pushFrame (.throwing q))
    rw [← hs₂]
    exact hsteps
end Payer
section Calls
variable {p : Program} {l : Launch} {e : Env} {R : Room} {s : State} {m : MethodId} {args : Array Value} {below : List Frame} {meth : Method} {c : Code} {T : State} {locs : List Loc} {cells slots : Nat}
theorem vx_callV (X : Stand p l e R s m args below meth c T locs cells slots) (hexec : p.tables.exec = Jvm.exec) {own C : String} {index : Nat} {y : MethodName} {bytes : ByteArray} {maxL : Nat} {ret : Option FieldType}
    (hown : s.vm.findClass own = some m.cls) (hlink : (Cond.methodLink own index y).before args s = true) (hinst : (Cond.instanceMethod y).before args s = true) (hsel : (Cond.selects C y y).before args s = true)
    (hcode : (Cond.code y bytes maxL ret).before args s = true) (hy : y.cls ≠ "java/lang/invoke/MethodHandle" ∧ y.cls ≠ "java/lang/invoke/VarHandle")
    {W9 : Nat} {Pre : Pt → Array Value → Prop} {Post : Pt → Array Value → Option Value → Pt → Prop} {PostX : Pt → Array Value → Addr → Pt → Prop} (hK : vx_Back l R p e below s args y 3 W9 Pre Post PostX)
    {b : Addr} {cellB : Cell} (hcell : T.heap[b]? = some cellB) (hobj : cellB.vm.isStatics = false) (hcls : s.vm.findClass C = some cellB.cls)
    {g : JFrame} (hg : g.method = m) (hsize : g.locals.size = c.maxLocals) {argsL rest : List Value} (hlen : ∀ sig, parseMethodDescriptor y.desc = some sig → argsL.length = sig.parameters.length)
    (hstack : g.stack = argsL.reverse ++ .ref b :: rest) (hW : 2 * g.monitorRoom + (rest.map fun v => v.category).sum ≤ W9) (hdg : decode c.code g.pc = .ok (.invokevirtual index, 3))
    (hpre : ∀ vm₁, s.WarmedH vm₁ → Pre ⟨T.setVm vm₁, locs, cells, slots⟩ (Value.ref b :: argsL).toArray) :
    (∃ (v : Option Value) (vm₁ : Vm) (B : Pt), s.WarmedH vm₁ ∧ Stand p l e R s m args below meth c B.U B.locs B.cells B.slots ∧ Post ⟨T.setVm vm₁, locs, cells, slots⟩ (Value.ref b :: argsL).toArray v B ∧
      ∀ target, Steps p.tables e below (B.U.setTop { g with pc := g.pc + 3, stack := v.toList ++ rest }) target → Steps p.tables e below (T.setTop g) target) ∨
    (∃ (q : Addr) (vm₁ : Vm) (B : Pt), s.WarmedH vm₁ ∧ Stand p l e R s m args below meth c B.U B.locs B.cells B.slots ∧ PostX ⟨T.setVm vm₁, locs, cells, slots⟩ (Value.ref b :: argsL).toArray q B ∧
      Steps p.tables e below (T.setTop g) ((B.U.setTop { g with stack := rest }).pushFrame (.throwing q))) := by
  obtain ⟨mk, methM, hnamed, hmethM, hstM, habM⟩ := Cond.instanceMethod_spec hinst
  obtain ⟨methM', cM, hmethM', -, -, -, -, -, -, hsigM⟩ := Cond.code_spec hnamed hcode
  cases hmethM.symm.trans hmethM'
  obtain ⟨c2, r2, m2, q1, q2, q3, q4, kP, hkP, hkPi⟩ := Cond.selects_spec hsel
  cases hcls.symm.trans q1
  cases (State.methodFound?_of_named hnamed hy).symm.trans q2
  cases hnamed.symm.trans q3
  have hselP : selectMethod e.platform s.vm cellB.cls mk = .method mk := by rw [Launch.admits_selectMethod X.admits]; exact q4
  obtain ⟨vm₁, X₁, hstep₁⟩ := X.invokevirtual hexec hown hlink hnamed hmethM hstM hkP hkPi hy (a := b) (cell := cellB) hcell
    (fun z h => by rw [h] at hobj; cases hobj) hselP hmethM habM hkP hkPi (g := g) hg (argsL := argsL) (rest := rest) (hlen _ hsigM) hstack hdg
  rcases hK m meth c ⟨T.setVm vm₁, locs, cells, slots⟩ { g with stack := rest } (.invokevirtual index) mk (Value.ref b :: argsL).toArray X₁ hg hsize hdg hW (X₁.named hnamed) (hpre vm₁ X₁.warmed) with ⟨v, B, X', hpost, hsteps⟩ | ⟨q, B, X', hpost, hsteps⟩
  · exact Or.inl ⟨v, vm₁, B, X₁.warmed, X', hpost, fun target h => hstep₁ _ fun acts => by rw [doInvoke_state]; exact hsteps.trans h⟩
  · exact Or.inr ⟨q, vm₁, B, X₁.warmed, X', hpost, hstep₁ _ fun acts => by rw [doInvoke_state]; exact hsteps⟩
theorem vx_callS (X : Stand p l e R s m args below meth c T locs cells slots) (hexec : p.tables.exec = Jvm.exec) {own : String} {index : Nat} {y : MethodName} {bytes : ByteArray} {maxL : Nat} {ret : Option FieldType}
    (hown : s.vm.findClass own = some m.cls) (hlink : (Cond.methodLink own index y).before args s = true) (hstat : (Cond.static y).before args s = true) (hinit : (Cond.initialized y.cls).before args s = true)
    (hcode : (Cond.code y bytes maxL ret).before args s = true) (hy : y.cls ≠ "java/lang/invoke/MethodHandle" ∧ y.cls ≠ "java/lang/invoke/VarHandle")
    {W9 : Nat} {Pre : Pt → Array Value → Prop} {Post : Pt → Array Value → Option Value → Pt → Prop} {PostX : Pt → Array Value → Addr → Pt → Prop} (hK : vx_Back l R p e below s args y 3 W9 Pre Post PostX)
    {g : JFrame} (hg : g.method = m) (hsize : g.locals.size = c.maxLocals) {argsL rest : List Value} (hlen : ∀ sig, parseMethodDescriptor y.desc = some sig → argsL.length = sig.parameters.length)
    (hstack : g.stack = argsL.reverse ++ rest) (hW : 2 * g.monitorRoom + (rest.map fun v => v.category).sum ≤ W9) (hdg : decode c.code g.pc = .ok (.invokestatic index, 3))
    (hpre : ∀ vm₁, s.WarmedH vm₁ → Pre ⟨T.setVm vm₁, locs, cells, slots⟩ argsL.toArray) :
    (∃ (v : Option Value) (vm₁ : Vm) (B : Pt), s.WarmedH vm₁ ∧ Stand p l e R s m args below meth c B.U B.locs B.cells B.slots ∧ Post ⟨T.setVm vm₁, locs, cells, slots⟩ argsL.toArray v B ∧
      ∀ target, Steps p.tables e below (B.U.setTop { g with pc := g.pc + 3, stack := v.toList ++ rest }) target → Steps p.tables e below (T.setTop g) target) ∨
    (∃ (q : Addr) (vm₁ : Vm) (B : Pt), s.WarmedH vm₁ ∧ Stand p l e R s m args below meth c B.U B.locs B.cells B.slots ∧ PostX ⟨T.setVm vm₁, locs, cells, slots⟩ argsL.toArray q B ∧
      Steps p.tables e below (T.setTop g) ((B.U.setTop { g with stack := rest }).pushFrame (.throwing q))) := by
  obtain ⟨mk, hnamed⟩ := Cond.code_named hcode
  obtain ⟨methM, cM, hmethM, -, -, -, -, -, -, hsigM⟩ := Cond.code_spec hnamed hcode
  have hstatic : methM.isStatic = true := Cond.static_spec hnamed hmethM hstat
  obtain ⟨kP, hkP, -⟩ := className_of_methodNamed hnamed
  have hinitP : kP.init = .initialized := Cond.initialized_spec (findClass_of_methodNamed hnamed) hkP hinit
  obtain ⟨vm₁, X₁, hstep₁⟩ := X.invokestatic hexec hown hlink hnamed hmethM hstatic hkP hinitP hy (g := g) hg (argsL := argsL) (rest := rest) (hlen _ hsigM) hstack hdg
  rcases hK m meth c ⟨T.setVm vm₁, locs, cells, slots⟩ { g with stack := rest } (.invokestatic index) mk argsL.toArray X₁ hg hsize hdg hW (X₁.named hnamed) (hpre vm₁ X₁.warmed) with ⟨v, B, X', hpost, hsteps⟩ | ⟨q, B, X', hpost, hsteps⟩
  · exact Or.inl ⟨v, vm₁, B, X₁.warmed, X', hpost, fun target h => hstep₁ _ fun acts => by rw [doInvoke_state]; exact hsteps.trans h⟩
  · exact Or.inr ⟨q, vm₁, B, X₁.warmed, X', hpost, hstep₁ _ fun acts => by rw [doInvoke_state]; exact hsteps⟩
end Calls
theorem vx_cls {s : State} {T : State} {vm₁ : Vm} {E : String} {k : ClassId} (hW : s.WarmedH vm₁) (h : (T.setVm vm₁).vm.findClass E = some k) : s.vm.findClass E = some k := by
  have h1 : vm₁.findClass E = some k := h
  rw [hW.alike.findClass] at h1
  exact h1
/-- the method's frame g, with q thrown over it -/
def vx_W (p : Program) (l : Launch) (e : Env) (R : Room) (s : State) (m : MethodId) (args : Array Value) (below : List Frame) (meth : Method) (c : Code) (H : Heap) (locs : List Loc) (cells slots : Nat) (Q : State → Prop) (g : JFrame) (q : Addr) : Prop :=
  ∀ T : State, T.heap = H → Stand p l e R s m args below meth c T locs cells slots → ∃ t, Steps p.tables e below ((T.setTop g).pushFrame (.throwing q)) t ∧ Q t
def vx_Run (p : Program) (l : Launch) (e : Env) (R : Room) (s : State) (m : MethodId) (args : Array Value) (below : List Frame) (meth : Method) (c : Code) (H : Heap) (locs : List Loc) (cells slots mc ms : Nat) (g : JFrame) (rest : List Value) (Qa : State → Outcome → State → Prop) (XC : String → State → State → Prop) (free : Addr → Prop) : Prop :=
  ∀ T : State, T.heap = H → Stand p l e R s m args below meth c T locs cells slots →
    (∃ (v : Option Value) (st₀ t T' : State) (L : List Loc), st₀.heap = H ∧ Stand p l e R s m args below meth c T' (locs ++ L) (cells + mc) (slots + ms) ∧ (∀ q ∈ L, free q.base) ∧ T'.heap = t.heap ∧ T'.vm = t.vm ∧ Qa st₀ (.returned v) t ∧
      Goes p e below T g T' { g with pc := g.pc + 3, stack := v.toList ++ rest }) ∨
    (∃ (q : Addr) (st₀ t T' : State) (L : List Loc) (E : String) (ce : Cell), st₀.heap = H ∧ Stand p l e R s m args below meth c T' (locs ++ L) (cells + mc) (slots + ms) ∧ (∀ z ∈ L, free z.base) ∧ T'.heap = t.heap ∧ T'.vm = t.vm ∧ XC E st₀ t ∧ t.heap[q]? = some ce ∧ ce.vm = .none ∧ s.vm.findClass E = some ce.cls ∧
      Steps p.tables e below (T.setTop g) ((T'.setTop { g with stack := rest }).pushFrame (.throwing q)))
def vx_X {S : Type} (px : S → Prop) (B : String → S → State → Prop) (A : Nat → Prop) : String → State → State → Prop := fun E st t => ∃ u : S, px u ∧ B E u t ∧ va_F A st t
section Runs
variable {p : Program} {l : Launch} {e : Env} {R : Room} {s : State} {m : MethodId} {args : Array Value} {below : List Frame} {meth : Method} {c : Code} {H : Heap} {locs : List Loc} {cells slots : Nat}
variable {y : MethodName} {bytes cc : ByteArray} {maxL nL mc ms n index : Nat} {ret : Option FieldType} {ws : List Cond} {rm : Room} {Pc : Array Value → State → Prop} {Qc : Array Value → State → Outcome → State → Prop} {XC : String → State → State → Prop} {free : Addr → Prop} {Ts : List Cond} {own C : String} {b : Addr} {As rest : List Value} {g : JFrame}
theorem vx_callBack (cb : CallB R s args own index y bytes maxL ret ws rm mc ms n) (hM : vx_Met l y ws rm Pc Qc XC mc ms free) (hbl : FrameBlind Pc) : vx_Back l R p e below s args y 3 8 (PreOf R mc ms Pc) (PostOf Qc mc ms free) (vx_Post XC mc ms free) := by
  obtain ⟨hrc, hrs, hfr, hlo, hws, hcw, -, hini, -⟩ := cb
  exact vx_back (bytes := bytes) (maxL := maxL) (ret := ret) hM hbl hrc hrs hfr hlo hws hcw (fun a' U hW => word_at hW (Or.inl (by first | rfl | simp [Cond.onTables, Cond.keeps, Cond.steady])) hini)
theorem vx_runV (S : CallFix p m c cc nL s args Ts own) (hM : vx_Met l y ws rm Pc Qc XC mc ms free) (cw : CallW R s args own C index y bytes maxL ret ws rm mc ms n) (hp : PreV s H C b Pc As)
    (hg : g.method = m) (hn : As.length = n) (hsize : g.locals.size = nL) (hstack : g.stack = As.reverse ++ .ref b :: rest) (hW : 2 * g.monitorRoom + (rest.map fun v => v.category).sum ≤ 8) (hdg : decode cc g.pc = .ok (.invokevirtual index, 3)) (hf : cells + mc ≤ R.cells ∧ slots + ms ≤ R.slots) :
    vx_Run p l e R s m args below meth c H locs cells slots mc ms g rest (Qc (Value.ref b :: As).toArray) XC free := by
  have hK : vx_Back l R p e below s args y 3 8 (PreOf R mc ms Pc) (PostOf Qc mc ms free) (vx_Post XC mc ms free) := vx_callBack cw.1 hM hp.1
  obtain ⟨⟨-, -, -, -, -, -, hcode, -, hy, hlen, hl⟩, hin, hse⟩ := cw
  obtain ⟨hx, hb, hml, ho, -⟩ := S
  obtain ⟨-, ⟨cellB, hcB, hoB, hclB⟩, hPc⟩ := hp
  intro T hT X
  rcases vx_callV X hx (C := C) (bytes := bytes) (maxL := maxL) (ret := ret) ho hl hin hse hcode hy hK (by rw [hT]; exact hcB) hoB hclB hg (hsize.trans hml.symm) (argsL := As) (rest := rest) (fun sig h => hn.trans (hlen sig h)) hstack hW (by rw [hb]; exact hdg)
    (fun vm₁ hW₁ => ⟨hf.1, hf.2, hPc (T.setVm vm₁) hT hW₁⟩) with ⟨v, vm₁, ⟨U', l2, c2, s2⟩, hW₁, X', ⟨g', mk, t, L, e1, e2, hq, h1, hL, h2, h3⟩, st⟩ | ⟨q, vm₁, ⟨U', l2, c2, s2⟩, hW₁, X', ⟨g', mk, t, L, E, ce, e1, e2, hq, hce, hcv, hcl, h1, hL, h2, h3⟩, st⟩
  · dsimp only [Pt.U, Pt.locs, Pt.cells, Pt.slots] at X' e1 e2 h1 h2 h3 st
    subst h1; subst h2; subst h3
    exact Or.inl ⟨v, (T.setVm vm₁).calling g' mk (Value.ref b :: As).toArray, t, U', L, hT, X', hL, e1, e2, hq, st⟩
  · dsimp only [Pt.U, Pt.locs, Pt.cells, Pt.slots] at X' e1 e2 h1 h2 h3 st hcl
    subst h1; subst h2; subst h3
    exact Or.inr ⟨q, (T.setVm vm₁).calling g' mk (Value.ref b :: As).toArray, t, U', L, E, ce, hT, X', hL, e1, e2, hq, hce, hcv, vx_cls hW₁ hcl, st⟩
theorem vx_runS (S : CallFix p m c cc nL s args Ts own) (hM : vx_Met l y ws rm Pc Qc XC mc ms free) (cw : CallB R s args own index y bytes maxL ret ws rm mc ms n ∧ (Cond.static y).before args s = true) (hp : PreS s H Pc As)
    (hg : g.method = m) (hn : As.length = n) (hsize : g.locals.size = nL) (hstack : g.stack = As.reverse ++ rest) (hW : 2 * g.monitorRoom + (rest.map fun v => v.category).sum ≤ 8) (hdg : decode cc g.pc = .ok (.invokestatic index, 3)) (hf : cells + mc ≤ R.cells ∧ slots + ms ≤ R.slots) :
    vx_Run p l e R s m args below meth c H locs cells slots mc ms g rest (Qc As.toArray) XC free := by
  have hK : vx_Back l R p e below s args y 3 8 (PreOf R mc ms Pc) (PostOf Qc mc ms free) (vx_Post XC mc ms free) := vx_callBack cw.1 hM hp.1
  obtain ⟨⟨-, -, -, -, -, -, hcode, hini, hy, hlen, hl⟩, hstt⟩ := cw
  obtain ⟨hx, hb, hml, ho, -⟩ := S
  intro T hT X
  rcases vx_callS X hx (bytes := bytes) (maxL := maxL) (ret := ret) ho hl hstt hini hcode hy hK hg (hsize.trans hml.symm) (argsL := As) (rest := rest) (fun sig h => hn.trans (hlen sig h)) hstack hW (by rw [hb]; exact hdg)
    (fun vm₁ hW₁ => ⟨hf.1, hf.2, hp.2 (T.setVm vm₁) hT hW₁⟩) with ⟨v, vm₁, ⟨U', l2, c2, s2⟩, hW₁, X', ⟨g', mk, t, L, e1, e2, hq, h1, hL, h2, h3⟩, st⟩ | ⟨q, vm₁, ⟨U', l2, c2, s2⟩, hW₁, X', ⟨g', mk, t, L, E, ce, e1, e2, hq, hce, hcv, hcl, h1, hL, h2, h3⟩, st⟩
  · dsimp only [Pt.U, Pt.locs, Pt.cells, Pt.slots] at X' e1 e2 h1 h2 h3 st
    subst h1; subst h2; subst h3
    exact Or.inl ⟨v, (T.setVm vm₁).calling g' mk As.toArray, t, U', L, hT, X', hL, e1, e2, hq, st⟩
  · dsimp only [Pt.U, Pt.locs, Pt.cells, Pt.slots] at X' e1 e2 h1 h2 h3 st hcl
    subst h1; subst h2; subst h3
    exact Or.inr ⟨q, (T.setVm vm₁).calling g' mk As.toArray, t, U', L, E, ce, hT, X', hL, e1, e2, hq, hce, hcv, vx_cls hW₁ hcl, st⟩
end Runs
section Rows
variable {p : Program} {l : Launch} {e : Env} {R : Room} {s : State} {m : MethodId} {args : Array Value} {below : List Frame} {meth : Method} {c : Code} {H : Heap} {locs : List Loc} {cells slots : Nat} {Q : State → Prop}
variable {mc ms : Nat} {free : Addr → Prop} {A0 A1 : Nat → Prop} {H0 : Heap} {a : Array Value} {pc : Nat} {ls : Array Slot} {st0 rest : List Value}
theorem vx_keep {st₀ t T' : State} {L : List Loc} (h0 : st₀.heap = H) (e1 : T'.heap = t.heap) (hS : va_S A0 H0 H locs) (hA : ∀ q, q < H.size → A1 q → A0 q) (hf : ∀ q, free q → A0 q) (hL : ∀ q ∈ L, free q.base) (hF : va_F A1 st₀ t) :
    H.size ≤ T'.heap.size ∧ (∀ q : Nat, q < H.size → ¬ A1 q → T'.heap[q]? = H[q]?) ∧ va_S A0 H0 T'.heap (locs ++ L) := by
  obtain ⟨hz, hk⟩ := hF
  rw [h0] at hz hk
  exact ⟨by rw [e1]; exact hz, fun q h1 h2 => by rw [e1]; exact hk q h1 h2,
    ⟨Nat.le_trans hS.1 (by rw [e1]; exact hz), fun q h1 h2 => by rw [e1, hk q (Nat.lt_of_lt_of_le h1 hS.1) (fun z => h2 (hA q (Nat.lt_of_lt_of_le h1 hS.1) z))]; exact hS.2.1 q h1 h2, fun q hq => by
      rcases List.mem_append.mp hq with h | h
      · exact hS.2.2 q h
      · exact hf _ (hL q h)⟩⟩
theorem vx_calli {S SX : Type} {post : Int32 → S → Prop} {px : SX → Prop} {B : S → State → Prop} {BX : String → SX → State → Prop} {AX : Nat → Prop} (hr : vx_Run p l e R s m args below meth c H locs cells slots mc ms (F0 m pc ls st0) rest (va_Qi post B A1 a) (vx_X px BX AX) free) (hS : va_S A0 H0 H locs) (hA : ∀ q, q < H.size → A1 q → A0 q) (hf : ∀ q, free q → A0 q) (hAX : ∀ q, q < H.size → AX q → A0 q)
    (kx : ∀ (E : String) (ce : Cell) (q9 : Addr) (u : SX) (t : State) (H1 : Heap) (locs1 : List Loc), t.heap = H1 → s.vm.Alike t.vm → px u → BX E u t → H.size ≤ H1.size → (∀ q : Nat, q < H.size → ¬ AX q → H1[q]? = H[q]?) → va_S A0 H0 H1 locs1 → H1[q9]? = some ce → ce.vm = .none → s.vm.findClass E = some ce.cls → vx_W p l e R s m args below meth c H1 locs1 (cells + mc) (slots + ms) Q (F0 m pc ls rest) q9)
    (kk : ∀ (r : Int32) (u : S) (t : State) (H1 : Heap) (locs1 : List Loc), t.heap = H1 → s.vm.Alike t.vm → post r u → B u t → H.size ≤ H1.size → (∀ q : Nat, q < H.size → ¬ A1 q → H1[q]? = H[q]?) → va_S A0 H0 H1 locs1 → W p l e R s m args below meth c H1 locs1 (cells + mc) (slots + ms) Q (F0 m (pc + 3) ls (.int r :: rest))) : W p l e R s m args below meth c H locs cells slots Q (F0 m pc ls st0) := by
  intro T hT X
  rcases hr T hT X with ⟨v, st₀, t, T', L, h0, X', hL, e1, e2, ⟨⟨r, u, hv, hp, hb⟩, hF⟩, st⟩ | ⟨q, st₀, t, T', L, E, ce, h0, X', hL, e1, e2, ⟨u, hp, hb, hF⟩, hce, hcv, hcl, st⟩
  · cases hv
    obtain ⟨k1, k2, k3⟩ := vx_keep h0 e1 hS hA hf hL hF
    obtain ⟨t2, a1, b1⟩ := kk r u t T'.heap (locs ++ L) e1.symm (by rw [← e2]; exact X'.warmed.alike) hp hb k1 k2 k3 T' rfl X'
    exact ⟨t2, st t2 a1, b1⟩
  · obtain ⟨k1, k2, k3⟩ := vx_keep h0 e1 hS hAX hf hL hF
    obtain ⟨t2, a1, b1⟩ := kx E ce q u t T'.heap (locs ++ L) e1.symm (by rw [← e2]; exact X'.warmed.alike) hp hb k1 k2 k3 (by rw [e1]; exact hce) hcv hcl T' rfl X'
    exact ⟨t2, st.trans a1, b1⟩
theorem vx_calll {S SX : Type} {post : Int64 → S → Prop} {px : SX → Prop} {B : S → State → Prop} {BX : String → SX → State → Prop} {AX : Nat → Prop} (hr : vx_Run p l e R s m args below meth c H locs cells slots mc ms (F0 m pc ls st0) rest (va_Ql post B A1 a) (vx_X px BX AX) free) (hS : va_S A0 H0 H locs) (hA : ∀ q, q < H.size → A1 q → A0 q) (hf : ∀ q, free q → A0 q) (hAX : ∀ q, q < H.size → AX q → A0 q)
    (kx : ∀ (E : String) (ce : Cell) (q9 : Addr) (u : SX) (t : State) (H1 : Heap) (locs1 : List Loc), t.heap = H1 → s.vm.Alike t.vm → px u → BX E u t → H.size ≤ H1.size → (∀ q : Nat, q < H.size → ¬ AX q → H1[q]? = H[q]?) → va_S A0 H0 H1 locs1 → H1[q9]? = some ce → ce.vm = .none → s.vm.findClass E = some ce.cls → vx_W p l e R s m args below meth c H1 locs1 (cells + mc) (slots + ms) Q (F0 m pc ls rest) q9)
    (kk : ∀ (r : Int64) (u : S) (t : State) (H1 : Heap) (locs1 : List Loc), t.heap = H1 → s.vm.Alike t.vm → post r u → B u t → H.size ≤ H1.size → (∀ q : Nat, q < H.size → ¬ A1 q → H1[q]? = H[q]?) → va_S A0 H0 H1 locs1 → W p l e R s m args below meth c H1 locs1 (cells + mc) (slots + ms) Q (F0 m (pc + 3) ls (.long r :: rest))) : W p l e R s m args below meth c H locs cells slots Q (F0 m pc ls st0) := by
  intro T hT X
  rcases hr T hT X with ⟨v, st₀, t, T', L, h0, X', hL, e1, e2, ⟨⟨r, u, hv, hp, hb⟩, hF⟩, st⟩ | ⟨q, st₀, t, T', L, E, ce, h0, X', hL, e1, e2, ⟨u, hp, hb, hF⟩, hce, hcv, hcl, st⟩
  · cases hv
    obtain ⟨k1, k2, k3⟩ := vx_keep h0 e1 hS hA hf hL hF
    obtain ⟨t2, a1, b1⟩ := kk r u t T'.heap (locs ++ L) e1.symm (by rw [← e2]; exact X'.warmed.alike) hp hb k1 k2 k3 T' rfl X'
    exact ⟨t2, st t2 a1, b1⟩
  · obtain ⟨k1, k2, k3⟩ := vx_keep h0 e1 hS hAX hf hL hF
    obtain ⟨t2, a1, b1⟩ := kx E ce q u t T'.heap (locs ++ L) e1.symm (by rw [← e2]; exact X'.warmed.alike) hp hb k1 k2 k3 (by rw [e1]; exact hce) hcv hcl T' rfl X'
    exact ⟨t2, st.trans a1, b1⟩
theorem vx_callf {S SX : Type} {post : UInt32 → S → Prop} {px : SX → Prop} {B : S → State → Prop} {BX : String → SX → State → Prop} {AX : Nat → Prop} (hr : vx_Run p l e R s m args below meth c H locs cells slots mc ms (F0 m pc ls st0) rest (va_Qf post B A1 a) (vx_X px BX AX) free) (hS : va_S A0 H0 H locs) (hA : ∀ q, q < H.size → A1 q → A0 q) (hf : ∀ q, free q → A0 q) (hAX : ∀ q, q < H.size → AX q → A0 q)
    (kx : ∀ (E : String) (ce : Cell) (q9 : Addr) (u : SX) (t : State) (H1 : Heap) (locs1 : List Loc), t.heap = H1 → s.vm.Alike t.vm → px u → BX E u t → H.size ≤ H1.size → (∀ q : Nat, q < H.size → ¬ AX q → H1[q]? = H[q]?) → va_S A0 H0 H1 locs1 → H1[q9]? = some ce → ce.vm = .none → s.vm.findClass E = some ce.cls → vx_W p l e R s m args below meth c H1 locs1 (cells + mc) (slots + ms) Q (F0 m pc ls rest) q9)
    (kk : ∀ (r : UInt32) (u : S) (t : State) (H1 : Heap) (locs1 : List Loc), t.heap = H1 → s.vm.Alike t.vm → post r u → B u t → H.size ≤ H1.size → (∀ q : Nat, q < H.size → ¬ A1 q → H1[q]? = H[q]?) → va_S A0 H0 H1 locs1 → W p l e R s m args below meth c H1 locs1 (cells + mc) (slots + ms) Q (F0 m (pc + 3) ls (.float r :: rest))) : W p l e R s m args below meth c H locs cells slots Q (F0 m pc ls st0) := by
  intro T hT X
  rcases hr T hT X with ⟨v, st₀, t, T', L, h0, X', hL, e1, e2, ⟨⟨r, u, hv, hp, hb⟩, hF⟩, st⟩ | ⟨q, st₀, t, T', L, E, ce, h0, X', hL, e1, e2, ⟨u, hp, hb, hF⟩, hce, hcv, hcl, st⟩
  · cases hv
    obtain ⟨k1, k2, k3⟩ := vx_keep h0 e1 hS hA hf hL hF
    obtain ⟨t2, a1, b1⟩ := kk r u t T'.heap (locs ++ L) e1.symm (by rw [← e2]; exact X'.warmed.alike) hp hb k1 k2 k3 T' rfl X'
    exact ⟨t2, st t2 a1, b1⟩
  · obtain ⟨k1, k2, k3⟩ := vx_keep h0 e1 hS hAX hf hL hF
    obtain ⟨t2, a1, b1⟩ := kx E ce q u t T'.heap (locs ++ L) e1.symm (by rw [← e2]; exact X'.warmed.alike) hp hb k1 k2 k3 (by rw [e1]; exact hce) hcv hcl T' rfl X'
    exact ⟨t2, st.trans a1, b1⟩
theorem vx_calld {S SX : Type} {post : UInt64 → S → Prop} {px : SX → Prop} {B : S → State → Prop} {BX : String → SX → State → Prop} {AX : Nat → Prop} (hr : vx_Run p l e R s m args below meth c H locs cells slots mc ms (F0 m pc ls st0) rest (va_Qd post B A1 a) (vx_X px BX AX) free) (hS : va_S A0 H0 H locs) (hA : ∀ q, q < H.size → A1 q → A0 q) (hf : ∀ q, free q → A0 q) (hAX : ∀ q, q < H.size → AX q → A0 q)
    (kx : ∀ (E : String) (ce : Cell) (q9 : Addr) (u : SX) (t : State) (H1 : Heap) (locs1 : List Loc), t.heap = H1 → s.vm.Alike t.vm → px u → BX E u t → H.size ≤ H1.size → (∀ q : Nat, q < H.size → ¬ AX q → H1[q]? = H[q]?) → va_S A0 H0 H1 locs1 → H1[q9]? = some ce → ce.vm = .none → s.vm.findClass E = some ce.cls → vx_W p l e R s m args below meth c H1 locs1 (cells + mc) (slots + ms) Q (F0 m pc ls rest) q9)
    (kk : ∀ (r : UInt64) (u : S) (t : State) (H1 : Heap) (locs1 : List Loc), t.heap = H1 → s.vm.Alike t.vm → post r u → B u t → H.size ≤ H1.size → (∀ q : Nat, q < H.size → ¬ A1 q → H1[q]? = H[q]?) → va_S A0 H0 H1 locs1 → W p l e R s m args below meth c H1 locs1 (cells + mc) (slots + ms) Q (F0 m (pc + 3) ls (.double r :: rest))) : W p l e R s m args below meth c H locs cells slots Q (F0 m pc ls st0) := by
  intro T hT X
  rcases hr T hT X with ⟨v, st₀, t, T', L, h0, X', hL, e1, e2, ⟨⟨r, u, hv, hp, hb⟩, hF⟩, st⟩ | ⟨q, st₀, t, T', L, E, ce, h0, X', hL, e1, e2, ⟨u, hp, hb, hF⟩, hce, hcv, hcl, st⟩
  · cases hv
    obtain ⟨k1, k2, k3⟩ := vx_keep h0 e1 hS hA hf hL hF
    obtain ⟨t2, a1, b1⟩ := kk r u t T'.heap (locs ++ L) e1.symm (by rw [← e2]; exact X'.warmed.alike) hp hb k1 k2 k3 T' rfl X'
    exact ⟨t2, st t2 a1, b1⟩
  · obtain ⟨k1, k2, k3⟩ := vx_keep h0 e1 hS hAX hf hL hF
    obtain ⟨t2, a1, b1⟩ := kx E ce q u t T'.heap (locs ++ L) e1.symm (by rw [← e2]; exact X'.warmed.alike) hp hb k1 k2 k3 (by rw [e1]; exact hce) hcv hcl T' rfl X'
    exact ⟨t2, st.trans a1, b1⟩
theorem vx_callv {S SX : Type} {post : S → Prop} {px : SX → Prop} {B : S → State → Prop} {BX : String → SX → State → Prop} {AX : Nat → Prop} (hr : vx_Run p l e R s m args below meth c H locs cells slots mc ms (F0 m pc ls st0) rest (va_Qv post B A1 a) (vx_X px BX AX) free) (hS : va_S A0 H0 H locs) (hA : ∀ q, q < H.size → A1 q → A0 q) (hf : ∀ q, free q → A0 q) (hAX : ∀ q, q < H.size → AX q → A0 q)
    (kx : ∀ (E : String) (ce : Cell) (q9 : Addr) (u : SX) (t : State) (H1 : Heap) (locs1 : List Loc), t.heap = H1 → s.vm.Alike t.vm → px u → BX E u t → H.size ≤ H1.size → (∀ q : Nat, q < H.size → ¬ AX q → H1[q]? = H[q]?) → va_S A0 H0 H1 locs1 → H1[q9]? = some ce → ce.vm = .none → s.vm.findClass E = some ce.cls → vx_W p l e R s m args below meth c H1 locs1 (cells + mc) (slots + ms) Q (F0 m pc ls rest) q9)
    (kk : ∀ (u : S) (t : State) (H1 : Heap) (locs1 : List Loc), t.heap = H1 → s.vm.Alike t.vm → post u → B u t → H.size ≤ H1.size → (∀ q : Nat, q < H.size → ¬ A1 q → H1[q]? = H[q]?) → va_S A0 H0 H1 locs1 → W p l e R s m args below meth c H1 locs1 (cells + mc) (slots + ms) Q (F0 m (pc + 3) ls (rest))) : W p l e R s m args below meth c H locs cells slots Q (F0 m pc ls st0) := by
  intro T hT X
  rcases hr T hT X with ⟨v, st₀, t, T', L, h0, X', hL, e1, e2, ⟨⟨u, hv, hp, hb⟩, hF⟩, st⟩ | ⟨q, st₀, t, T', L, E, ce, h0, X', hL, e1, e2, ⟨u, hp, hb, hF⟩, hce, hcv, hcl, st⟩
  · cases hv
    obtain ⟨k1, k2, k3⟩ := vx_keep h0 e1 hS hA hf hL hF
    obtain ⟨t2, a1, b1⟩ := kk u t T'.heap (locs ++ L) e1.symm (by rw [← e2]; exact X'.warmed.alike) hp hb k1 k2 k3 T' rfl X'
    exact ⟨t2, st t2 a1, b1⟩
  · obtain ⟨k1, k2, k3⟩ := vx_keep h0 e1 hS hAX hf hL hF
    obtain ⟨t2, a1, b1⟩ := kx E ce q u t T'.heap (locs ++ L) e1.symm (by rw [← e2]; exact X'.warmed.alike) hp hb k1 k2 k3 (by rw [e1]; exact hce) hcv hcl T' rfl X'
    exact ⟨t2, st.trans a1, b1⟩
/-- caught by the row x of this method's table; the rows ahead don't take it -/
theorem vx_catch {own name : String} {E : String} {ce : Cell} {q : Addr} (hown : s.vm.findClass own = some m.cls) (pre : List ExceptionTableEntry) (x : ExceptionTableEntry) (suf : List ExceptionTableEntry) (hsplit : c.exceptionTable.toList = pre ++ x :: suf)
    (hpass : ∀ z ∈ pre, covers z pc = false ∨ (z.catchType ≠ 0 ∧ ∃ nm : String, (Cond.classLink own z.catchType nm).before args s = true ∧ va_Nc E nm s)) (hx : covers x pc = true) (h0 : x.catchType ≠ 0)
    (hlink : (Cond.classLink own x.catchType name).before args s = true) (hcast : (Cond.castable E name).before args s = true) (hcell : H[q]? = some ce) (hv : ce.vm = .none) (hcl : s.vm.findClass E = some ce.cls)
    (kk : W p l e R s m args below meth c H locs cells slots Q (F0 m x.handlerPc ls [.ref q])) : vx_W p l e R s m args below meth c H locs cells slots Q (F0 m pc ls rest) q := by
  intro T hT X
  have hpl : e.platform.magicAccessors = ({} : Platform).magicAccessors := by rw [X.admits.platform]
  obtain ⟨c3, c4, hc3, hc4, hasg⟩ := Cond.castable_spec hcast
  cases Option.some.inj (hc3.symm.trans hcl)
  obtain ⟨c5, hc5, hcl5⟩ := Cond.classLink_spec hown hlink e.platform hpl
  cases Option.some.inj (hc4.symm.trans hc5)
  obtain ⟨vm', X', st⟩ := X.thenCaughtThrough q (g := F0 m pc ls rest) rfl (Steps.refl _) (by rw [hT]; exact hcell) (by rw [hv]; rfl) (by obtain ⟨k9, h9, -⟩ := Vm.findClass_spec hcl; exact ⟨k9, h9⟩) pre x suf hsplit
    (fun z hz => by
      rcases hpass z hz with h | ⟨hz0, nm, hl1, hn1⟩
      · exact Or.inl h
      · obtain ⟨c6, hc6, hcl6⟩ := Cond.classLink_spec hown hl1 e.platform hpl
        obtain ⟨a8, b8, h1, h2, h3⟩ := hn1
        cases Option.some.inj (h1.symm.trans hcl)
        cases Option.some.inj (h2.symm.trans hc6)
        exact Or.inr ⟨hz0, _, hcl6, h3⟩) hx (Or.inr ⟨h0, c4, hcl5, hasg⟩)
  obtain ⟨t, a1, b1⟩ := kk (T.setVm vm') hT X'
  exact ⟨t, st.trans a1, b1⟩
end Rows
section Ends
variable {p : Program} {l : Launch} {e : Env} {R : Room} {s : State} {m : MethodId} {args : Array Value} {below : List Frame} {meth : Method} {c : Code} {H : Heap} {locs : List Loc} {cells slots : Nat} {Q : State → Prop}
variable {mc ms : Nat} {free : Addr → Prop} {A0 A1 : Nat → Prop} {H0 : Heap} {a : Array Value} {ls : Array Slot} {st0 rest : List Value}
variable {Qc : Array Value → State → Outcome → State → Prop} {XC : String → State → State → Prop}
/-- what a body that may throw owes at its end -/
def vx_MQ (below : List Frame) (Qc : Array Value → State → Outcome → State → Prop) (XC : String → State → State → Prop) (a : Array Value) (s : State) (mc ms : Nat) (free : Addr → Prop) : State → Prop := fun t =>
  ∃ o, t.status = .running ∧ Ended t below o ∧ vx_Q Qc XC mc ms free a s o t
theorem vx_ret {g : JFrame} {mc ms : Nat} (k : W p l e R s m args below meth c H locs cells slots (MQ below Qc args s mc ms free) g) : W p l e R s m args below meth c H locs cells slots (vx_MQ below Qc XC args s mc ms free) g := by
  intro T hT X
  obtain ⟨t, a1, o, b1, b2, b3, b4⟩ := k T hT X
  exact ⟨t, a1, o, b1, b2, Or.inl ⟨b3, b4⟩⟩
/-- not caught here: it goes on to the caller -/
theorem vx_widen {g : JFrame} {q : Addr} {k n : Nat} (h1 : cells ≤ k) (h2 : slots ≤ n) (kk : vx_W p l e R s m args below meth c H locs k n Q g q) : vx_W p l e R s m args below meth c H locs cells slots Q g q := fun T hT X => kk T hT (stand_widen X h1 h2)
theorem vx_out {pc : Nat} {E : String} {ce : Cell} {q : Addr} {mc ms : Nat} (hout : ∀ x ∈ c.exceptionTable.toList, covers x pc = false) (hlocks : meth.locks = false) (hcell : H[q]? = some ce) (hv : ce.vm = .none) (hcl : s.vm.findClass E = some ce.cls)
    (hx : ∀ t : State, t.heap = H → s.vm.Alike t.vm → XC E s t) (hf : ∀ z ∈ locs, free z.base) (hc : cells ≤ mc) (hs : slots ≤ ms) :
    vx_W p l e R s m args below meth c H locs cells slots (vx_MQ below Qc XC args s mc ms free) (F0 m pc ls rest) q := by
  intro T hT X
  obtain ⟨st1, hrun, hend, hW, hsm⟩ := X.leaveThrown q (g := F0 m pc ls rest) rfl rfl rfl hout hlocks
  have hcell9 : (T.setFrames (.throwing q :: below)).heap[q]? = some ce := by
    show T.heap[q]? = some ce
    rw [hT]; exact hcell
  exact ⟨_, st1, .threw q, hrun, hend, Or.inr ⟨q, rfl, E, ce, locs, hx _ hT hW.alike, hcell9, hv, hcl, hW, hsm.mono hc hs, hf⟩⟩
theorem vx_frame {U : State} {k n : Nat} (h : s.sameButNew ({ U with vm := s.vm } : State) locs k n) : s.heap.size ≤ U.heap.size ∧ ∀ q : Nat, q < s.heap.size → (∀ z ∈ locs, z.base ≠ q) → U.heap[q]? = s.heap[q]? := by
  obtain ⟨-, h2, -, -, -, h6⟩ := h
  refine ⟨h2, fun q hq hz => ?_⟩
  obtain ⟨c9, e1, e2, e3, e4⟩ := h6 q _ (Array.getElem?_eq_getElem hq)
  have hs : c9.slots = (s.heap[q]).slots := Array.ext_getElem? fun i => e4 i fun hm => hz _ hm rfl
  have h9 : c9 = s.heap[q] := by
    rw [hs] at e2
    exact e2
  have e5 : U.heap[q]? = some c9 := e1
  rw [e5, h9, Array.getElem?_eq_getElem hq]
/-- the words of a throw but the four that speak of the heap -/
def vx_no (w : Cond) : Bool := decide (w ≠ .isRef (.static Bundle.tN "UNASSIGNED_STACK" Bundle.steD)) && decide (w ≠ .isRef (.static Bundle.tN "SUPPRESSED_SENTINEL" Bundle.listD)) && decide (w ≠ .laysStatic Bundle.tN "UNASSIGNED_STACK" Bundle.steD) && decide (w ≠ .laysStatic Bundle.tN "SUPPRESSED_SENTINEL" Bundle.listD)
def vx_at0 (own : String) (ic : Nat) (X : String) (names : List String) : List Cond := (Bundle.ownAtoms0 own ic X names).filter vx_no
def vx_atS (own : String) (ic : Nat) (X : String) (names : List String) : List Cond := (Bundle.ownAtoms own ic X names).filter vx_no
/-- a word that the tables alone decide, or a good one -/
def vx_ot (w : Cond) : Bool := w.onTables || goodWord w
theorem vx_ot_at {args a' : Array Value} {s U : State} {w : Cond} (hW : s.WarmedH U.vm) (hvm : s.vm = U.vm) (hg : vx_ot w = true) (h : w.before args s = true) : w.before a' U = true := by
  simp only [vx_ot, Bool.or_eq_true] at hg
  rcases hg with hg | hg
  · exact va_tabs hg hvm h
  · exact word_at hW (good_of_word hg) h
/-- a list's words: the good ones out of the method's own list, the others by premises of their own -/
theorem vx_hat {args : Array Value} {s : State} {L B : List Cond} (h1 : ∀ w ∈ L.filter goodWord, w.before args s = true) (h2 : ∀ w ∈ L.filter (fun w => !goodWord w), w ∈ B) (h3 : ∀ w ∈ B, w.before args s = true) : ∀ w ∈ L, w.before args s = true := by
  intro w hw
  by_cases g : goodWord w = true
  · exact h1 w (List.mem_filter.mpr ⟨hw, g⟩)
  · refine h3 w (h2 w (List.mem_filter.mpr ⟨hw, ?_⟩))
    show (!goodWord w) = true
    cases hgw : goodWord w
    · rfl
    · exact absurd hgw g
theorem vx_c {args : Array Value} {s : State} {w : Cond} {B : List Cond} (h : w.before args s = true) (t : ∀ w ∈ B, w.before args s = true) : ∀ w' ∈ w :: B, w'.before args s = true := fun w' h' => (List.mem_cons.mp h').elim (fun e => by rw [e]; exact h) (t w')
theorem vx_n {args : Array Value} {s : State} : ∀ w ∈ ([] : List Cond), w.before args s = true := fun _ h => nomatch h
theorem vx_own {args : Array Value} {s : State} {L : List Cond} (h1 : ∀ w ∈ L.filter vx_no, w.before args s = true)
    (hU : (Cond.isRef (.static Bundle.tN "UNASSIGNED_STACK" Bundle.steD)).before args s = true) (hN : (Cond.isRef (.static Bundle.tN "SUPPRESSED_SENTINEL" Bundle.listD)).before args s = true)
    (lU : (Cond.laysStatic Bundle.tN "UNASSIGNED_STACK" Bundle.steD).before args s = true) (lN : (Cond.laysStatic Bundle.tN "SUPPRESSED_SENTINEL" Bundle.listD).before args s = true) : ∀ w ∈ L, w.before args s = true := by
  intro w hw
  by_cases e1 : w = .isRef (.static Bundle.tN "UNASSIGNED_STACK" Bundle.steD)
  · rw [e1]; exact hU
  · by_cases e2 : w = .isRef (.static Bundle.tN "SUPPRESSED_SENTINEL" Bundle.listD)
    · rw [e2]; exact hN
    · by_cases e3 : w = .laysStatic Bundle.tN "UNASSIGNED_STACK" Bundle.steD
      · rw [e3]; exact lU
      · by_cases e4 : w = .laysStatic Bundle.tN "SUPPRESSED_SENTINEL" Bundle.listD
        · rw [e4]; exact lN
        · exact h1 w (List.mem_filter.mpr ⟨hw, by unfold vx_no; rw [decide_eq_true e1, decide_eq_true e2, decide_eq_true e3, decide_eq_true e4]; rfl⟩)
/-- where a static field lies, its class's statics cell in H -/
def vx_L (C n d : String) (A : Nat → Prop) (U : State) (H : Heap) : Prop := ∃ (c : ClassId) (k : Class) (i : Nat) (f : Field) (a : Nat) (cell : Cell), U.vm.findClass C = some c ∧ U.fieldFound? C n d = some (c, k, i, f) ∧ f.isStatic = true ∧ k.statics = some a ∧ H[a]? = some cell ∧ cell.vm.isStatics = true ∧ cell.cls = c ∧ f.slot < cell.slots.size ∧ k.staticTypes[f.slot]? = some f.type ∧ ¬ A a
theorem vx_L.moved {C n d : String} {A : Nat → Prop} {u U : State} {H : Heap} (hvm : u.vm.Alike U.vm) (h : vx_L C n d A u H) : vx_L C n d A U H := by
  obtain ⟨c, k, i, f, a, cell, h1, h2, h3, h4, h5, h6, h7, h8, h9, h10⟩ := h
  obtain ⟨k', hi', he⟩ := State.fieldFound?_setVm hvm h2
  exact ⟨c, k', i, f, a, cell, by rw [hvm.findClass]; exact h1, hi', h3, by rw [he]; exact h4, h5, h6, h7, h8, by rw [he]; exact h9, h10⟩
theorem vx_L.kept {C n d : String} {A : Nat → Prop} {U : State} {H H1 : Heap} (h : vx_L C n d A U H) (hq : ∀ a : Nat, a < H.size → ¬ A a → H1[a]? = H[a]?) : vx_L C n d A U H1 := by
  obtain ⟨c, k, i, f, a, cell, h1, h2, h3, h4, h5, h6, h7, h8, h9, h10⟩ := h
  exact ⟨c, k, i, f, a, cell, h1, h2, h3, h4, by rw [hq a (Array.getElem?_eq_some_iff.mp h5).1 h10]; exact h5, h6, h7, h8, h9, h10⟩
theorem vx_L.narrow {C n d : String} {A B : Nat → Prop} {U : State} {H : Heap} (h : vx_L C n d A U H) (hAB : ∀ q, B q → A q) : vx_L C n d B U H := by
  obtain ⟨c, k, i, f, a, cell, h1, h2, h3, h4, h5, h6, h7, h8, h9, h10⟩ := h
  exact ⟨c, k, i, f, a, cell, h1, h2, h3, h4, h5, h6, h7, h8, h9, fun z => h10 (hAB _ z)⟩
theorem vx_L.word {C n d : String} {A : Nat → Prop} {s : State} {args : Array Value} (h : vx_L C n d A s s.heap) : (Cond.laysStatic C n d).before args s = true := by
  obtain ⟨c, k, i, f, a, cell, h1, h2, h3, h4, h5, h6, h7, h8, h9, -⟩ := h
  show (Cond.laysStatic C n d).holds args s none s [] = true
  exact Cond.laysStatic_of h1 h2 h3 h4 h5 h6 h7 h8 h9
/-- .. and what it holds: null or some reference -/
def vx_Zq (C n d : String) (A : Nat → Prop) (U : State) (H : Heap) : Prop := va_Zq C n d A U H ∧ vx_L C n d A U H
theorem vx_Zq.moved {C n d : String} {A : Nat → Prop} {u U : State} {H : Heap} (hvm : u.vm.Alike U.vm) (h : vx_Zq C n d A u H) : vx_Zq C n d A U H := ⟨va_Zq.moved hvm h.1, vx_L.moved hvm h.2⟩
theorem vx_Zq.kept {C n d : String} {A : Nat → Prop} {U : State} {H H1 : Heap} (h : vx_Zq C n d A U H) (hq : ∀ a : Nat, a < H.size → ¬ A a → H1[a]? = H[a]?) : vx_Zq C n d A U H1 := ⟨va_Zq.kept h.1 hq, vx_L.kept h.2 hq⟩
theorem vx_Zq.narrow {C n d : String} {A B : Nat → Prop} {U : State} {H : Heap} (h : vx_Zq C n d A U H) (hAB : ∀ q, B q → A q) : vx_Zq C n d B U H := ⟨va_Zq.narrow h.1 hAB, vx_L.narrow h.2 hAB⟩
theorem vx_Zqof {args : Array Value} {s : State} {C n d : String} {A : Nat → Prop} (hl : (Cond.laysStatic C n d).before args s = true) (hini : (Cond.initialized C).before args s = true) (h : (Cond.isRef (.static C n d)).before args s = true) (hA : ∀ a : Nat, a < s.heap.size → ¬ A a) : vx_Zq C n d A s s.heap := by
  refine ⟨va_Zqof hl hini h hA, ?_⟩
  obtain ⟨c, k, i, f, a, cell, h1, h2, h3, h4, h5, h6, h7, h8, h9⟩ := Cond.laysStatic_spec hl
  exact ⟨c, k, i, f, a, cell, h1, h2, h3, h4, h5, h6, h7, h8, h9, hA a (Array.getElem?_eq_some_iff.mp h5).1⟩
theorem vx_isRef {C n d : String} {v : Value} {A : Nat → Prop} {s : State} {args : Array Value} (h : va_Z C n d v A s s.heap) (hv : v.isRef = true) : (Cond.isRef (.static C n d)).before args s = true := by
  obtain ⟨cf, kf, fi, f, a, cell, h1, h2, h3, h4, h5, h6, h7, -⟩ := h
  have he : (Term.static C n d).eval args s none [] s = some v := by
    simp [Term.eval, State.fieldNamed?, h1, h2, h4, h5, h6, h7]
  simp only [Cond.before, Cond.holds, Cond.value, he]
  cases v <;> simp_all [Value.isRef]
theorem vx_isRefq {C n d : String} {A : Nat → Prop} {s : State} {args : Array Value} (h : va_Zq C n d A s s.heap) : (Cond.isRef (.static C n d)).before args s = true := by
  rcases h with h | ⟨t, h⟩
  · exact vx_isRef h rfl
  · exact vx_isRef h rfl
/-- the same frame, seen from here: as if the method were called anew in this heap -/
theorem vx_rebase {T : State} (X : Stand p l e R s m args below meth c T locs cells slots) {R' : Room} (hf : R'.frames ≤ R.frames) (hl : R'.locals ≤ R.locals) (hc : cells + R'.cells ≤ R.cells) (hs : slots + R'.slots ≤ R.slots) :
    Stand p l e R' ((T.setVm s.vm).setFrames (.invoking m args :: below)) m args below meth c T [] 0 0 := by
  have htop : (T.setVm s.vm).topJava?.isSome := X.here.top
  have hF : ((T.setVm s.vm).setFrames (.invoking m args :: below)).frames = .invoking m args :: below := State.frames_setFrames _ (State.cur_lt_of_top htop)
  obtain ⟨g₀, hg0⟩ := Option.isSome_iff_exists.mp htop
  obtain ⟨r, hr⟩ := State.topJava?_eq_some.mp hg0
  have hl9 : e.platform.stackLimits (T.setVm s.vm).me = e.platform.stackLimits s.me := X.limits
  have hb9 : (T.setVm s.vm).me.stackBytes = s.me.stackBytes := X.bytes
  refine ⟨X.admits, X.cas, X.clock, hF, ?_, X.hears, X.method, X.code, X.here, X.tail, X.warmed, ?_, ?_, ?_⟩
  · have h := X.room
    have hU : ((T.setVm s.vm).setFrames (.invoking m args :: below)).localsInUse = s.localsInUse := by
      rw [State.localsInUse_invoking hF (meth := meth) (c := c) X.method X.code, State.localsInUse_invoking X.frames X.method X.code]
    simp only [State.hasRoom, Bool.and_eq_true, decide_eq_true_eq] at h ⊢
    obtain ⟨⟨⟨⟨h1, h2, h3, h4, h5, h6⟩, h7⟩, h8⟩, h9⟩ := h
    rw [X.frames, List.length_cons] at h2 h3
    have q1 := X.heapSize
    have q2 := X.used
    simp only [hF, hU, List.length_cons, State.stackLimits_setFrames, State.stackBytes_setFrames, hl9, hb9]
    refine ⟨⟨⟨⟨by omega, by omega, by omega, by omega, by omega, h6⟩, ?_⟩, ?_⟩, X.book⟩
    · show T.heap.size + R'.cells ≤ e.platform.maxCells
      omega
    · show T.slotsUsed + R'.slots ≤ e.platform.maxSlots
      omega
  · rw [State.stackLimits_setFrames]; rfl
  · rw [State.stackBytes_setFrames]; rfl
  · refine ⟨?_, Nat.le_refl _, Nat.le_refl _, ?_, ?_, fun a c9 h9 => ⟨c9, h9, rfl, rfl, fun _ _ => rfl⟩⟩
    · obtain ⟨t, ht, -⟩ := State.frames_cons hr
      show T.setVm s.vm = { ((T.setVm s.vm).setFrames (.invoking m args :: below)).setFrames (T.setVm s.vm).frames with heap := T.heap, slotsUsed := T.slotsUsed }
      rw [State.setFrames_setFrames, State.setFrames_self ht]
      rfl
    · show T.slotsUsed = T.slotsUsed + ((T.heap.toList.drop T.heap.size).map (·.slots.size)).sum
      rw [List.drop_eq_nil_of_le (Nat.le_of_eq Array.length_toList)]
      rfl
    · show ((T.heap.toList.drop T.heap.size).map (·.slots.size)).sum ≤ 0
      rw [List.drop_eq_nil_of_le (Nat.le_of_eq Array.length_toList)]
      exact Nat.le_refl _
/-- 'throw new E()': new; dup; invokespecial; athrow -/
theorem vx_throw0 {cc : ByteArray} {pc : Nat} (hexec : p.tables.exec = Jvm.exec) (hb : c.code = cc) (hl : l.stackTraces = false) {own cls : String} {names : List String} {ik ic mc ms : Nat} {A : Nat → Prop}
    (hown : s.vm.findClass own = some m.cls) (hcls : Bundle.fit cls = true) (hnames : ∀ n ∈ names, Bundle.fit n = true)
    (hk : (Cond.classLink own ik cls).before args s = true) (hini : (Cond.initialized cls).before args s = true) (hat : ∀ w ∈ vx_at0 own ic cls names, w.before args s = true)
    (hgood : ∀ w ∈ Cond.classLink own ik cls :: Cond.initialized cls :: vx_at0 own ic cls names, vx_ot w = true)
    (hU : vx_Zq Bundle.tN "UNASSIGNED_STACK" Bundle.steD A s s.heap) (hN : vx_Zq Bundle.tN "SUPPRESSED_SENTINEL" Bundle.listD A s s.heap) (hS : va_S A s.heap H locs) (hsize : ls.size = c.maxLocals)
    (d0 : decode cc pc = .ok (.new ik, 3)) (d3 : decode cc (pc + 3) = .ok (.dup, 1)) (d4 : decode cc (pc + 4) = .ok (.invokespecial ic, 3)) (d7 : decode cc (pc + 7) = .ok (.athrow, 1))
    (hout : ∀ x ∈ c.exceptionTable.toList, covers x (pc + 7) = false)
    (hRframes : names.length + 3 < R.frames) (hRlocals : (rest.map fun v => v.category).sum + (13 * (names.length + 1) + 42) ≤ R.locals) (hRcells : cells + 1 ≤ R.cells) (hRslots : slots + 6 ≤ R.slots) (hlocks : meth.locks = false)
    (hx : ∀ t : State, s.vm.Alike t.vm → H.size ≤ t.heap.size → (∀ q : Nat, q < H.size → t.heap[q]? = H[q]?) → XC cls s t)
    (hf : ∀ z ∈ locs, free z.base) (hc : cells + 1 ≤ mc) (hs : slots + 6 ≤ ms) :
    W p l e R s m args below meth c H locs cells slots (vx_MQ below Qc XC args s mc ms free) (F0 m pc ls rest) := by
  intro T hT X
  have htr : e.platform.stackTraces = false := (show e.platform.stackTraces = l.stackTraces by rw [X.admits.platform]).trans hl
  have Y := vx_rebase X (R' := { frames := R.frames, locals := R.locals, cells := 1, slots := 6 }) (Nat.le_refl _) (Nat.le_refl _) hRcells hRslots
  obtain ⟨s', hA⟩ : ∃ z, z = (T.setVm s.vm).setFrames (.invoking m args :: below) := ⟨_, rfl⟩
  rw [← hA] at Y
  have hvm : s'.vm = s.vm := by rw [hA]; rfl
  have hhp : s'.heap = H := by rw [hA]; exact hT
  have hW0 : s.WarmedH s'.vm := by rw [hvm]; exact State.WarmedH.refl s
  have hat' : ∀ w ∈ vx_at0 own ic cls names, w.before args s' = true := fun w hw => vx_ot_at hW0 hvm.symm (hgood w (List.mem_cons_of_mem _ (List.mem_cons_of_mem _ hw))) (hat w hw)
  have hk' : (Cond.classLink own ik cls).before args s' = true := vx_ot_at hW0 hvm.symm (hgood _ List.mem_cons_self) hk
  have hini' : (Cond.initialized cls).before args s' = true := vx_ot_at hW0 hvm.symm (hgood _ (List.mem_cons_of_mem _ List.mem_cons_self)) hini
  have hU' : vx_Zq Bundle.tN "UNASSIGNED_STACK" Bundle.steD A s' s'.heap := by rw [hhp]; exact vx_Zq.moved hW0.alike (hU.kept hS.2.1)
  have hN' : vx_Zq Bundle.tN "SUPPRESSED_SENTINEL" Bundle.listD A s' s'.heap := by rw [hhp]; exact vx_Zq.moved hW0.alike (hN.kept hS.2.1)
  have h : ∀ w ∈ Bundle.ownAtoms0 own ic cls names, w.before args s' = true := vx_own hat' (vx_isRefq hU'.1) (vx_isRefq hN'.1) hU'.2.word hN'.2.word
  have hown' : s'.vm.findClass own = some m.cls := by rw [hvm]; exact hown
  have hins : (Cond.instantiable cls 6).before args s' = true := h _ (by simp [Bundle.ownAtoms0])
  obtain ⟨vm₁, cX, kX, hfX, hkX, -, -, X₁, st1⟩ := Y.newCold hexec (own := own) (C := cls) (index := ik) (n := 6) hown' hk' hins hini'
    (g := F0 m pc ls rest) rfl (by rw [hb]; exact d0) (Nat.le_refl _) (Nat.le_refl _)
  generalize hT1 : (T.setVm vm₁).pushCell { cls := cX, slots := kX.instanceTypes.map defaultValue, vm := .none } = T1 at X₁ st1
  have hcat : (Value.ref T.heap.size).category = 1 := rfl
  have hcellA : T1.heap[T.heap.size]? = some (freshCell cX kX) := by rw [← hT1]; exact State.heap_pushCell_size _ _
  have d3' : decode c.code (pc + 3) = .ok (.dup, 1) := by rw [hb]; exact d3
  obtain ⟨U, hsteps, hrun, hend, hW, hsame, ce, hce, hO⟩ := X₁.ctorThrow0 hexec htr (own := own) (cls := cls) (names := names) (ic := ic) hown' hcls hnames h (fun x hx => nomatch hx) hfX hkX hcellA (by rw [hhp, hT]; exact Nat.le_refl _)
    (g := { method := m, pc := pc + 4, locals := ls, stack := .ref T.heap.size :: .ref T.heap.size :: rest, locked := none }) rfl hsize rfl rfl (rest := rest) rfl
    (by rw [hb]; exact d4) (by rw [hb]; exact d7) hout hRframes (by simp only [List.map_cons, List.sum_cons, hcat]; omega) hlocks
  obtain ⟨f1, f2⟩ := vx_frame hsame
  rw [hhp] at f1 f2
  have hWs : s.WarmedH U.vm := State.WarmedH.trans hW0 hW
  have hcl : s.vm.findClass cls = some ce.cls := by
    have h9 := hO.cls
    rw [hvm] at h9
    exact h9
  have hall : s.sameButNew ({ U with vm := s.vm } : State) locs mc ms := by
    subst hA
    obtain ⟨e1, e2⟩ := hsame
    rw [State.setFrames_setFrames] at e1
    have h2 : (T.setVm s.vm).sameButNew ({ U with vm := s.vm } : State) [] (0 + 1) (0 + 6) := ⟨e1, e2⟩
    have h3 := X.same.trans h2
    rw [List.append_nil] at h3
    exact h3.mono hc hs
  refine ⟨U, ?_, .threw T.heap.size, hrun, hend, Or.inr ⟨T.heap.size, rfl, cls, ce, locs, hx U hWs.alike f1 (fun q hq => f2 q hq (fun z hz => nomatch hz)), hce, hO.vm, hcl, hWs, hall, hf⟩⟩
  refine st1 _ ?_
  show Steps p.tables e below (T1.setTop { method := m, pc := pc + 3, locals := ls, stack := .ref T.heap.size :: rest, locked := none }) _
  jvm_step X₁.here [X₁.here.top, hexec, d3', Value.category]
  exact hsteps
/-- 'throw new E("text")': new; dup; ldc; invokespecial; athrow -/
theorem vx_throwS {cc : ByteArray} {pc : Nat} (hexec : p.tables.exec = Jvm.exec) (hb : c.code = cc) (hl : l.stackTraces = false) {own cls text : String} {names : List String} {ik is ic mc ms sa : Nat} {A : Nat → Prop}
    (hown : s.vm.findClass own = some m.cls) (hcls : Bundle.fit cls = true) (hnames : ∀ n ∈ names, Bundle.fit n = true)
    (hk : (Cond.classLink own ik cls).before args s = true) (hini : (Cond.initialized cls).before args s = true) (hstr : vk_R own is text sa s) (hat : ∀ w ∈ vx_atS own ic cls names, w.before args s = true)
    (hgood : ∀ w ∈ Cond.classLink own ik cls :: Cond.initialized cls :: vx_atS own ic cls names, vx_ot w = true)
    (hU : vx_Zq Bundle.tN "UNASSIGNED_STACK" Bundle.steD A s s.heap) (hN : vx_Zq Bundle.tN "SUPPRESSED_SENTINEL" Bundle.listD A s s.heap) (hS : va_S A s.heap H locs) (hsize : ls.size = c.maxLocals)
    (d0 : decode cc pc = .ok (.new ik, 3)) (d3 : decode cc (pc + 3) = .ok (.dup, 1)) (d4 : decode cc (pc + 4) = .ok (.ldc is, 2)) (d6 : decode cc (pc + 6) = .ok (.invokespecial ic, 3)) (d9 : decode cc (pc + 9) = .ok (.athrow, 1))
    (hout : ∀ x ∈ c.exceptionTable.toList, covers x (pc + 9) = false)
    (hRframes : names.length + 3 < R.frames) (hRlocals : (rest.map fun v => v.category).sum + (13 * (names.length + 1) + 43) ≤ R.locals) (hRcells : cells + 1 ≤ R.cells) (hRslots : slots + 6 ≤ R.slots) (hlocks : meth.locks = false)
    (hx : ∀ t : State, s.vm.Alike t.vm → H.size ≤ t.heap.size → (∀ q : Nat, q < H.size → t.heap[q]? = H[q]?) → XC cls s t)
    (hf : ∀ z ∈ locs, free z.base) (hc : cells + 1 ≤ mc) (hs : slots + 6 ≤ ms) :
    W p l e R s m args below meth c H locs cells slots (vx_MQ below Qc XC args s mc ms free) (F0 m pc ls rest) := by
  intro T hT X
  have htr : e.platform.stackTraces = false := (show e.platform.stackTraces = l.stackTraces by rw [X.admits.platform]).trans hl
  have Y := vx_rebase X (R' := { frames := R.frames, locals := R.locals, cells := 1, slots := 6 }) (Nat.le_refl _) (Nat.le_refl _) hRcells hRslots
  obtain ⟨s', hA⟩ : ∃ z, z = (T.setVm s.vm).setFrames (.invoking m args :: below) := ⟨_, rfl⟩
  rw [← hA] at Y
  have hvm : s'.vm = s.vm := by rw [hA]; rfl
  have hhp : s'.heap = H := by rw [hA]; exact hT
  have hW0 : s.WarmedH s'.vm := by rw [hvm]; exact State.WarmedH.refl s
  have hat' : ∀ w ∈ vx_atS own ic cls names, w.before args s' = true := fun w hw => vx_ot_at hW0 hvm.symm (hgood w (List.mem_cons_of_mem _ (List.mem_cons_of_mem _ hw))) (hat w hw)
  have hk' : (Cond.classLink own ik cls).before args s' = true := vx_ot_at hW0 hvm.symm (hgood _ List.mem_cons_self) hk
  have hini' : (Cond.initialized cls).before args s' = true := vx_ot_at hW0 hvm.symm (hgood _ (List.mem_cons_of_mem _ List.mem_cons_self)) hini
  have hU' : vx_Zq Bundle.tN "UNASSIGNED_STACK" Bundle.steD A s' s'.heap := by rw [hhp]; exact vx_Zq.moved hW0.alike (hU.kept hS.2.1)
  have hN' : vx_Zq Bundle.tN "SUPPRESSED_SENTINEL" Bundle.listD A s' s'.heap := by rw [hhp]; exact vx_Zq.moved hW0.alike (hN.kept hS.2.1)
  have h : ∀ w ∈ Bundle.ownAtoms own ic cls names, w.before args s' = true := vx_own hat' (vx_isRefq hU'.1) (vx_isRefq hN'.1) hU'.2.word hN'.2.word
  have hown' : s'.vm.findClass own = some m.cls := by rw [hvm]; exact hown
  have hins : (Cond.instantiable cls 6).before args s' = true := h _ (by simp [Bundle.ownAtoms])
  obtain ⟨vm₁, cX, kX, hfX, hkX, -, -, X₁, st1⟩ := Y.newCold hexec (own := own) (C := cls) (index := ik) (n := 6) hown' hk' hins hini'
    (g := F0 m pc ls rest) rfl (by rw [hb]; exact d0) (Nat.le_refl _) (Nat.le_refl _)
  generalize hT1 : (T.setVm vm₁).pushCell { cls := cX, slots := kX.instanceTypes.map defaultValue, vm := .none } = T1 at X₁ st1
  have hcat : (Value.ref T.heap.size).category = 1 := rfl
  have hcellA : T1.heap[T.heap.size]? = some (freshCell cX kX) := by rw [← hT1]; exact State.heap_pushCell_size _ _
  have d3' : decode c.code (pc + 3) = .ok (.dup, 1) := by rw [hb]; exact d3
  have d4' : decode c.code (pc + 4) = .ok (.ldc is, 2) := by rw [hb]; exact d4
  have hstr' : vk_R own is text sa s' := vk_R.warm hW0 hstr
  obtain ⟨U, hsteps, hrun, hend, hW, hsame, ce, hce, hO⟩ := X₁.ctorThrowS hexec htr (own := own) (cls := cls) (names := names) (ic := ic) hown' hcls hnames h (fun x hx => nomatch hx) hfX hkX hcellA (by rw [hhp, hT]; exact Nat.le_refl _) (msg := .ref sa) rfl
    (g := { method := m, pc := pc + 6, locals := ls, stack := .ref sa :: .ref T.heap.size :: .ref T.heap.size :: rest, locked := none }) rfl hsize rfl rfl (rest := rest) rfl
    (by rw [hb]; exact d6) (by rw [hb]; exact d9) hout hRframes (by simp only [List.map_cons, List.sum_cons, hcat]; omega) hlocks
  obtain ⟨f1, f2⟩ := vx_frame hsame
  rw [hhp] at f1 f2
  have hWs : s.WarmedH U.vm := State.WarmedH.trans hW0 hW
  have hcl : s.vm.findClass cls = some ce.cls := by
    have h9 := hO.cls
    rw [hvm] at h9
    exact h9
  have hall : s.sameButNew ({ U with vm := s.vm } : State) locs mc ms := by
    subst hA
    obtain ⟨e1, e2⟩ := hsame
    rw [State.setFrames_setFrames] at e1
    have h2 : (T.setVm s.vm).sameButNew ({ U with vm := s.vm } : State) [] (0 + 1) (0 + 6) := ⟨e1, e2⟩
    have h3 := X.same.trans h2
    rw [List.append_nil] at h3
    exact h3.mono hc hs
  refine ⟨U, ?_, .threw T.heap.size, hrun, hend, Or.inr ⟨T.heap.size, rfl, cls, ce, locs, hx U hWs.alike f1 (fun q hq => f2 q hq (fun z hz => nomatch hz)), hce, hO.vm, hcl, hWs, hall, hf⟩⟩
  refine st1 _ ?_
  show Steps p.tables e below (T1.setTop { method := m, pc := pc + 3, locals := ls, stack := .ref T.heap.size :: rest, locked := none }) _
  jvm_step X₁.here [X₁.here.top, hexec, d3', Value.category]
  exact X₁.ldcString hexec (own := own) (text := text) (index := is) (a := sa) hown' hstr'.1 hstr'.2
    (g := { method := m, pc := pc + 4, locals := ls, stack := .ref T.heap.size :: .ref T.heap.size :: rest, locked := none }) rfl d4' _ hsteps
/-- 'throw new E("text")', the text by a wide index -/
theorem vx_throwSW {cc : ByteArray} {pc : Nat} (hexec : p.tables.exec = Jvm.exec) (hb : c.code = cc) (hl : l.stackTraces = false) {own cls text : String} {names : List String} {ik is ic mc ms sa : Nat} {A : Nat → Prop}
    (hown : s.vm.findClass own = some m.cls) (hcls : Bundle.fit cls = true) (hnames : ∀ n ∈ names, Bundle.fit n = true)
    (hk : (Cond.classLink own ik cls).before args s = true) (hini : (Cond.initialized cls).before args s = true) (hstr : vk_R own is text sa s) (hat : ∀ w ∈ vx_atS own ic cls names, w.before args s = true)
    (hgood : ∀ w ∈ Cond.classLink own ik cls :: Cond.initialized cls :: vx_atS own ic cls names, vx_ot w = true)
    (hU : vx_Zq Bundle.tN "UNASSIGNED_STACK" Bundle.steD A s s.heap) (hN : vx_Zq Bundle.tN "SUPPRESSED_SENTINEL" Bundle.listD A s s.heap) (hS : va_S A s.heap H locs) (hsize : ls.size = c.maxLocals)
    (d0 : decode cc pc = .ok (.new ik, 3)) (d3 : decode cc (pc + 3) = .ok (.dup, 1)) (d4 : decode cc (pc + 4) = .ok (.ldc_w is, 3)) (d7 : decode cc (pc + 7) = .ok (.invokespecial ic, 3)) (d10 : decode cc (pc + 10) = .ok (.athrow, 1))
    (hout : ∀ x ∈ c.exceptionTable.toList, covers x (pc + 10) = false)
    (hRframes : names.length + 3 < R.frames) (hRlocals : (rest.map fun v => v.category).sum + (13 * (names.length + 1) + 43) ≤ R.locals) (hRcells : cells + 1 ≤ R.cells) (hRslots : slots + 6 ≤ R.slots) (hlocks : meth.locks = false)
    (hx : ∀ t : State, s.vm.Alike t.vm → H.size ≤ t.heap.size → (∀ q : Nat, q < H.size → t.heap[q]? = H[q]?) → XC cls s t)
    (hf : ∀ z ∈ locs, free z.base) (hc : cells + 1 ≤ mc) (hs : slots + 6 ≤ ms) :
    W p l e R s m args below meth c H locs cells slots (vx_MQ below Qc XC args s mc ms free) (F0 m pc ls rest) := by
  intro T hT X
  have htr : e.platform.stackTraces = false := (show e.platform.stackTraces = l.stackTraces by rw [X.admits.platform]).trans hl
  have Y := vx_rebase X (R' := { frames := R.frames, locals := R.locals, cells := 1, slots := 6 }) (Nat.le_refl _) (Nat.le_refl _) hRcells hRslots
  obtain ⟨s', hA⟩ : ∃ z, z = (T.setVm s.vm).setFrames (.invoking m args :: below) := ⟨_, rfl⟩
  rw [← hA] at Y
  have hvm : s'.vm = s.vm := by rw [hA]; rfl
  have hhp : s'.heap = H := by rw [hA]; exact hT
  have hW0 : s.WarmedH s'.vm := by rw [hvm]; exact State.WarmedH.refl s
  have hat' : ∀ w ∈ vx_atS own ic cls names, w.before args s' = true := fun w hw => vx_ot_at hW0 hvm.symm (hgood w (List.mem_cons_of_mem _ (List.mem_cons_of_mem _ hw))) (hat w hw)
  have hk' : (Cond.classLink own ik cls).before args s' = true := vx_ot_at hW0 hvm.symm (hgood _ List.mem_cons_self) hk
  have hini' : (Cond.initialized cls).before args s' = true := vx_ot_at hW0 hvm.symm (hgood _ (List.mem_cons_of_mem _ List.mem_cons_self)) hini
  have hU' : vx_Zq Bundle.tN "UNASSIGNED_STACK" Bundle.steD A s' s'.heap := by rw [hhp]; exact vx_Zq.moved hW0.alike (hU.kept hS.2.1)
  have hN' : vx_Zq Bundle.tN "SUPPRESSED_SENTINEL" Bundle.listD A s' s'.heap := by rw [hhp]; exact vx_Zq.moved hW0.alike (hN.kept hS.2.1)
  have h : ∀ w ∈ Bundle.ownAtoms own ic cls names, w.before args s' = true := vx_own hat' (vx_isRefq hU'.1) (vx_isRefq hN'.1) hU'.2.word hN'.2.word
  have hown' : s'.vm.findClass own = some m.cls := by rw [hvm]; exact hown
  have hins : (Cond.instantiable cls 6).before args s' = true := h _ (by simp [Bundle.ownAtoms])
  obtain ⟨vm₁, cX, kX, hfX, hkX, -, -, X₁, st1⟩ := Y.newCold hexec (own := own) (C := cls) (index := ik) (n := 6) hown' hk' hins hini'
    (g := F0 m pc ls rest) rfl (by rw [hb]; exact d0) (Nat.le_refl _) (Nat.le_refl _)
  generalize hT1 : (T.setVm vm₁).pushCell { cls := cX, slots := kX.instanceTypes.map defaultValue, vm := .none } = T1 at X₁ st1
  have hcat : (Value.ref T.heap.size).category = 1 := rfl
  have hcellA : T1.heap[T.heap.size]? = some (freshCell cX kX) := by rw [← hT1]; exact State.heap_pushCell_size _ _
  have d3' : decode c.code (pc + 3) = .ok (.dup, 1) := by rw [hb]; exact d3
  have d4' : decode c.code (pc + 4) = .ok (.ldc_w is, 3) := by rw [hb]; exact d4
  have hstr' : vk_R own is text sa s' := vk_R.warm hW0 hstr
  obtain ⟨U, hsteps, hrun, hend, hW, hsame, ce, hce, hO⟩ := X₁.ctorThrowS hexec htr (own := own) (cls := cls) (names := names) (ic := ic) hown' hcls hnames h (fun x hx => nomatch hx) hfX hkX hcellA (by rw [hhp, hT]; exact Nat.le_refl _) (msg := .ref sa) rfl
    (g := { method := m, pc := pc + 7, locals := ls, stack := .ref sa :: .ref T.heap.size :: .ref T.heap.size :: rest, locked := none }) rfl hsize rfl rfl (rest := rest) rfl
    (by rw [hb]; exact d7) (by rw [hb]; exact d10) hout hRframes (by simp only [List.map_cons, List.sum_cons, hcat]; omega) hlocks
  obtain ⟨f1, f2⟩ := vx_frame hsame
  rw [hhp] at f1 f2
  have hWs : s.WarmedH U.vm := State.WarmedH.trans hW0 hW
  have hcl : s.vm.findClass cls = some ce.cls := by
    have h9 := hO.cls
    rw [hvm] at h9
    exact h9
  have hall : s.sameButNew ({ U with vm := s.vm } : State) locs mc ms := by
    subst hA
    obtain ⟨e1, e2⟩ := hsame
    rw [State.setFrames_setFrames] at e1
    have h2 : (T.setVm s.vm).sameButNew ({ U with vm := s.vm } : State) [] (0 + 1) (0 + 6) := ⟨e1, e2⟩
    have h3 := X.same.trans h2
    rw [List.append_nil] at h3
    exact h3.mono hc hs
  refine ⟨U, ?_, .threw T.heap.size, hrun, hend, Or.inr ⟨T.heap.size, rfl, cls, ce, locs, hx U hWs.alike f1 (fun q hq => f2 q hq (fun z hz => nomatch hz)), hce, hO.vm, hcl, hWs, hall, hf⟩⟩
  refine st1 _ ?_
  show Steps p.tables e below (T1.setTop { method := m, pc := pc + 3, locals := ls, stack := .ref T.heap.size :: rest, locked := none }) _
  jvm_step X₁.here [X₁.here.top, hexec, d3', Value.category]
  exact X₁.ldcStringW hexec (own := own) (text := text) (index := is) (a := sa) hown' hstr'.1 hstr'.2
    (g := { method := m, pc := pc + 4, locals := ls, stack := .ref T.heap.size :: .ref T.heap.size :: rest, locked := none }) rfl d4' _ hsteps
end Ends
section Bodies
variable {l : Launch}
theorem vx_ofW {y : MethodName} {ws ws' : List Cond} {rm : Room} {Pc : Array Value → State → Prop} {Qc : Array Value → State → Outcome → State → Prop} {XC : String → State → State → Prop} {mc ms : Nat} {free : Addr → Prop} {cc : ByteArray} {maxL : Nat} {ret : Option FieldType}
    (hy : plainName y.cls = true) (hw : ws = Cond.code y cc maxL ret :: ws')
    (body : ∀ p e s m args below meth c s₁, BodyLoose p l y (headSpec ws rm) cc maxL ret e s m args below meth c s₁ → c.maxLocals = maxL → (∀ x ∈ c.exceptionTable.toList, False) → Pc args s →
      W p l e (headSpec ws rm).room s m args below meth c s.heap [] 0 0 (vx_MQ below Qc XC args s mc ms free) (entryFrame m args maxL)) : vx_Met l y ws rm Pc Qc XC mc ms free := by
  refine MetFree.of_bodyS (code := cc) (maxLocals := maxL) (ret := ret) hy ?_ ?_
  · intro args s m h hn
    obtain ⟨meth, c, h1, h2, h3, h4, h5, h6, -, -⟩ := Cond.code_spec hn (atoms_spec (ws := ws) h _ (by rw [hw]; exact List.mem_cons_self))
    exact ⟨meth, c, h1, h2, h3, h4, h5, h6⟩
  · intro p e s m args below meth c s₁ B hml hP _
    have hh0 : s₁.heap = s.heap := by rw [B.state]; rfl
    have ht : ∀ x ∈ c.exceptionTable.toList, False := by
      obtain ⟨meth9, c9, h1, h2, -, -, -, -, h7, -⟩ := Cond.code_spec B.named (atoms_spec (ws := ws) B.pre _ (by rw [hw]; exact List.mem_cons_self))
      cases Option.some.inj (h1.symm.trans B.method)
      cases Option.some.inj (h2.symm.trans (Stand.of_body B).code)
      intro x hx
      rw [Array.isEmpty_iff.mp h7] at hx
      cases hx
    obtain ⟨t, a1, o, b1, b2, b3⟩ := body p e s m args below meth c s₁ B hml ht hP s₁ hh0 (Stand.of_body B)
    exact ⟨t, o, a1, b1, b2, b3⟩
/-- the table of a body with handlers -/
theorem vx_table {p : Program} {x y : MethodName} {S : Spec} {cc bytes : ByteArray} {maxL maxL' : Nat} {ret ret' : Option FieldType} {e : Env} {s s₁ : State} {m : MethodId} {args : Array Value} {below : List Frame} {meth : Method} {c : Code} {hh : List (Nat × Nat × Nat × Nat)}
    (B : BodyLoose p l y S cc maxL ret e s m args below meth c s₁) (h : (Cond.codeWith y bytes maxL' ret' hh).before args s = true) : c.exceptionTable.toList = tableOf hh := by
  obtain ⟨m9, meth9, c9, hn9, h1, h2, -, -, h6, -⟩ := Cond.codeWith_spec h
  cases Option.some.inj (hn9.symm.trans B.named)
  cases Option.some.inj (h1.symm.trans B.method)
  cases Option.some.inj (h2.symm.trans (Stand.of_body B).code)
  rw [← h6, table_eq]
end Bodies
end VXA
/-! ===== END ===== -/
/-! ===== BEGIN a static call of a method with an exception table ===== -/
section VXS
variable {p : Program} {l : Launch} {e : Env} {R : Room} {s : State} {m : MethodId} {args : Array Value} {below : List Frame} {meth : Method} {c : Code} {T : State} {H : Heap} {locs : List Loc} {cells slots : Nat}
abbrev vx_CSW (R : Room) (s : State) (args : Array Value) (own : String) (index : Nat) (y : MethodName) (bytes : ByteArray) (maxL : Nat) (ret : Option FieldType) (hh : List (Nat × Nat × Nat × Nat)) (ws : List Cond) (rm : Room) (mc ms n : Nat) : Prop :=
  (rm.cells = mc ∧ rm.slots = ms ∧ rm.frames + 1 ≤ R.frames ∧ 8 + (maxL + 11) + rm.locals ≤ R.locals ∧ (∀ w ∈ ws, ∀ (a' : Array Value) (U : State), s.WarmedH U.vm → w.before a' U = true) ∧ Cond.codeWith y bytes maxL ret hh ∈ ws) ∧
  (Cond.codeWith y bytes maxL ret hh).before args s = true ∧ (Cond.initialized y.cls).before args s = true ∧ (y.cls ≠ "java/lang/invoke/MethodHandle" ∧ y.cls ≠ "java/lang/invoke/VarHandle") ∧
  (∀ sig, parseMethodDescriptor y.desc = some sig → n = sig.parameters.length) ∧ (Cond.methodLink own index y).before args s = true ∧ (Cond.static y).before args s = true
theorem vx_cwSW {own : String} {index maxL mc ms : Nat} {y : MethodName} {bytes : ByteArray} {ret : Option FieldType} {hh : List (Nat × Nat × Nat × Nat)} {Ts ws ws' : List Cond} {rm : Room} (n : Nat) (ht : ∀ w ∈ Ts, w.before args s = true) (hT : GoodIn Ts (va_wsS own index y ws)) (hw : ws = Cond.codeWith y bytes maxL ret hh :: ws') (hrc : rm.cells = mc) (hrs : rm.slots = ms)
    (hd : y.cls ≠ "java/lang/invoke/MethodHandle" ∧ y.cls ≠ "java/lang/invoke/VarHandle" ∧ (parseMethodDescriptor y.desc).map (fun d => d.parameters.length) = some n) (hR : rm.frames + 1 ≤ R.frames ∧ 8 + (maxL + 11) + rm.locals ≤ R.locals) :
    vx_CSW R s args own index y bytes maxL ret hh ws rm mc ms n := by
  have ok : ∀ w ∈ va_wsS own index y ws, w.before args s = true := fun w h => ht w (hT w h).1
  have hG : GoodIn Ts ws := fun w h => hT w (by unfold va_wsS; exact List.mem_append_right _ h)
  have hc : Cond.codeWith y bytes maxL ret hh ∈ ws := by rw [hw]; exact List.mem_cons_self
  refine ⟨⟨hrc, hrs, hR.1, hR.2, pay_in ht hG, hc⟩, ht _ (hG _ hc).1, ok _ (by simp [va_wsS]), ⟨hd.1, hd.2.1⟩, fun sig h => ?_, ok _ (by simp [va_wsS]), ok _ (by simp [va_wsS])⟩
  have h2 := hd.2.2
  rw [h] at h2
  exact (Option.some.inj h2).symm
theorem vx_callSW (X : Stand p l e R s m args below meth c T locs cells slots) (hexec : p.tables.exec = Jvm.exec) {own : String} {index : Nat} {y : MethodName} {bytes : ByteArray} {maxL : Nat} {ret : Option FieldType} {hh : List (Nat × Nat × Nat × Nat)}
    (hown : s.vm.findClass own = some m.cls) (hlink : (Cond.methodLink own index y).before args s = true) (hstat : (Cond.static y).before args s = true) (hinit : (Cond.initialized y.cls).before args s = true)
    (hcode : (Cond.codeWith y bytes maxL ret hh).before args s = true) (hy : y.cls ≠ "java/lang/invoke/MethodHandle" ∧ y.cls ≠ "java/lang/invoke/VarHandle")
    {W9 : Nat} {Pre : Pt → Array Value → Prop} {Post : Pt → Array Value → Option Value → Pt → Prop} (hK : Back l R p e below s args y 3 W9 Pre Post)
    {g : JFrame} (hg : g.method = m) (hsize : g.locals.size = c.maxLocals) {argsL rest : List Value} (hlen : ∀ sig, parseMethodDescriptor y.desc = some sig → argsL.length = sig.parameters.length)
    (hstack : g.stack = argsL.reverse ++ rest) (hW : 2 * g.monitorRoom + (rest.map fun v => v.category).sum ≤ W9) (hdg : decode c.code g.pc = .ok (.invokestatic index, 3))
    (hpre : ∀ vm₁, s.WarmedH vm₁ → Pre ⟨T.setVm vm₁, locs, cells, slots⟩ argsL.toArray) :
    ∃ (v : Option Value) (vm₁ : Vm) (B : Pt), s.WarmedH vm₁ ∧ Stand p l e R s m args below meth c B.U B.locs B.cells B.slots ∧ Post ⟨T.setVm vm₁, locs, cells, slots⟩ argsL.toArray v B ∧
      ∀ target, Steps p.tables e below (B.U.setTop { g with pc := g.pc + 3, stack := v.toList ++ rest }) target → Steps p.tables e below (T.setTop g) target := by
  obtain ⟨mk, methM, cM, hnamed, hmethM, -, -, -, -, -, -, hsigM⟩ := Cond.codeWith_spec hcode
  have hstatic : methM.isStatic = true := Cond.static_spec hnamed hmethM hstat
  obtain ⟨kP, hkP, -⟩ := className_of_methodNamed hnamed
  have hinitP : kP.init = .initialized := Cond.initialized_spec (findClass_of_methodNamed hnamed) hkP hinit
  obtain ⟨vm₁, X₁, hstep₁⟩ := X.invokestatic hexec hown hlink hnamed hmethM hstatic hkP hinitP hy (g := g) hg (argsL := argsL) (rest := rest) (hlen _ hsigM) hstack hdg
  obtain ⟨v, B, X', hpost, hsteps⟩ := hK m meth c ⟨T.setVm vm₁, locs, cells, slots⟩ { g with stack := rest } (.invokestatic index) mk argsL.toArray X₁ hg hsize hdg hW (X₁.named hnamed) (hpre vm₁ X₁.warmed)
  exact ⟨v, vm₁, B, X₁.warmed, X', hpost, fun target h => hstep₁ _ fun acts => by rw [doInvoke_state]; exact hsteps.trans h⟩
theorem vx_runSW {y : MethodName} {bytes cc : ByteArray} {maxL nL mc ms n index : Nat} {ret : Option FieldType} {hh : List (Nat × Nat × Nat × Nat)} {ws : List Cond} {rm : Room} {Pc : Array Value → State → Prop} {Qc : Array Value → State → Outcome → State → Prop} {free : Addr → Prop} {Ts : List Cond} {own : String} {As rest : List Value} {g : JFrame}
    (S : CallFix p m c cc nL s args Ts own) (hM : Met l y ws rm Pc Qc mc ms free) (cw : vx_CSW R s args own index y bytes maxL ret hh ws rm mc ms n) (hp : PreS s H Pc As)
    (hg : g.method = m) (hn : As.length = n) (hsize : g.locals.size = nL) (hstack : g.stack = As.reverse ++ rest) (hW : 2 * g.monitorRoom + (rest.map fun v => v.category).sum ≤ 8) (hdg : decode cc g.pc = .ok (.invokestatic index, 3)) (hf : cells + mc ≤ R.cells ∧ slots + ms ≤ R.slots) :
    va_Run p l e R s m args below meth c H locs cells slots mc ms g rest (Qc As.toArray) (free) := by
  obtain ⟨⟨hrc, hrs, hfr, hlo, hws, hcw⟩, hcode, hini, hy, hlen, hl, hstt⟩ := cw
  have hK : Back l R p e below s args y 3 8 (PreOf R mc ms Pc) (PostOf Qc mc ms free) := va_backW (hh := hh) (bytes := bytes) (maxL := maxL) (ret := ret) hM hp.1 hrc hrs hfr hlo hws hcw (fun a' U hW => word_at hW (Or.inl (by first | rfl | simp [Cond.onTables, Cond.keeps, Cond.steady])) hini)
  obtain ⟨hx, hb, hml, ho, -⟩ := S
  intro T hT X
  obtain ⟨v, vm₁, ⟨U', l2, c2, s2⟩, hW₁, X', ⟨g', mk, t, L, e1, e2, hq, h1, hL, h2, h3⟩, st⟩ := vx_callSW X hx (hh := hh) (bytes := bytes) (maxL := maxL) (ret := ret) ho hl hstt hini hcode hy hK hg (hsize.trans hml.symm) (argsL := As) (rest := rest) (fun sig h => hn.trans (hlen sig h)) hstack hW (by rw [hb]; exact hdg)
    (fun vm₁ hW₁ => ⟨hf.1, hf.2, hp.2 (T.setVm vm₁) hT hW₁⟩)
  dsimp only [Pt.U, Pt.locs, Pt.cells, Pt.slots] at X' e1 e2 h1 h2 h3 st
  subst h1; subst h2; subst h3
  exact ⟨v, (T.setVm vm₁).calling g' mk As.toArray, t, U', L, hT, X', hL, e1, e2, hq, st⟩
/-- not caught here, past rows that name other classes: it goes on to the caller -/
theorem vx_outP {p : Program} {l : Launch} {e : Env} {R : Room} {s : State} {m : MethodId} {args : Array Value} {below : List Frame} {meth : Method} {c : Code} {H : Heap} {locs : List Loc} {cells slots : Nat} {free : Addr → Prop} {ls : Array Slot} {rest : List Value} {Qc : Array Value → State → Outcome → State → Prop} {XC : String → State → State → Prop}
    {pc : Nat} {own E : String} {ce : Cell} {q : Addr} {mc ms : Nat} (hown : s.vm.findClass own = some m.cls) (hlocks : meth.locks = false)
    (hpass : ∀ z ∈ c.exceptionTable.toList, covers z pc = false ∨ (z.catchType ≠ 0 ∧ ∃ nm : String, (Cond.classLink own z.catchType nm).before args s = true ∧ va_Nc E nm s)) (hcell : H[q]? = some ce) (hv : ce.vm = .none) (hcl : s.vm.findClass E = some ce.cls)
    (hx : ∀ t : State, t.heap = H → s.vm.Alike t.vm → XC E s t) (hf : ∀ z ∈ locs, free z.base) (hc : cells ≤ mc) (hs : slots ≤ ms) :
    vx_W p l e R s m args below meth c H locs cells slots (vx_MQ below Qc XC args s mc ms free) (F0 m pc ls rest) q := by
  intro T hT X
  have hpl : e.platform.magicAccessors = ({} : Platform).magicAccessors := by rw [X.admits.platform]
  obtain ⟨vm', hW', X', st⟩ := X.outThrough hlocks q (g := F0 m pc ls rest) rfl rfl rfl (cell := ce) (by rw [hT]; exact hcell) (by rw [hv]; rfl)
    (by obtain ⟨k9, h9, -⟩ := Vm.findClass_spec hcl; exact ⟨k9, h9⟩) (fun z hz => by
      rcases hpass z hz with h | ⟨hz0, nm, hl1, hn1⟩
      · exact Or.inl h
      · obtain ⟨c6, hc6, hcl6⟩ := Cond.classLink_spec hown hl1 e.platform hpl
        obtain ⟨a8, b8, h1, h2, h3⟩ := hn1
        cases Option.some.inj (h1.symm.trans hcl)
        cases Option.some.inj (h2.symm.trans hc6)
        exact Or.inr ⟨hz0, _, hcl6, h3⟩)
  obtain ⟨g₀, hfr⟩ := X'.frames_eq
  have hcell9 : ((T.setVm vm').setFrames (.throwing q :: below)).heap[q]? = some ce := by
    show T.heap[q]? = some ce
    rw [hT]; exact hcell
  have hend : Ended ((T.setVm vm').setFrames (.throwing q :: below)) below (.threw q) := State.frames_setFrames _ (State.cur_lt_of_frames hfr)
  refine ⟨(T.setVm vm').setFrames (.throwing q :: below), ?_, .threw q, X'.here.running, hend, Or.inr ⟨q, rfl, E, ce, locs, hx _ hT (X'.ends _).1.alike, hcell9, hv, hcl, (X'.ends _).1, (X'.ends _).2.mono hc hs, hf⟩⟩
  rw [X.pushThrowing_eq]
  exact st
/-- a thing of a world lies in the heap -/
theorem vx_lt {D : va_G} {cl : List vw_C} {ws : va_W} {H1 : Heap} (h : va_P D cl ws H1) {k : Nat} {q : Nat × va_E} (hk : ws[k]? = some q) : q.1 < H1.size := (h k q hk).lt
end VXS
/-! ===== END ===== -/
/-! ===== BEGIN methods with a table of their own: called by a name, returning or throwing ===== -/
section VXH
/-! vx_backW, vx_callVX, vx_callSX, vx_callVW, vx_runVW, vx_runVX, vx_runSX, vx_ofWH follow the same proofs as their sisters above (Free/Laws.lean, Shelf42/LK1.lean); vx_outP calls Shelf42/NT130.lean (outThrough). -/
section
variable {l : Launch} {R : Room} {p : Program} {e : Env} {below : List Frame} {s : State} {sargs : Array Value} {y : MethodName} {len W9 : Nat}
theorem vx_backW {ws : List Cond} {rm : Room} {Pc : Array Value → State → Prop} {Qc : Array Value → State → Outcome → State → Prop} {XC : String → State → State → Prop} {mc ms : Nat} {free : Addr → Prop} {bytes : ByteArray} {maxL : Nat} {ret : Option FieldType} {hh : List (Nat × Nat × Nat × Nat)}
    (hM : vx_Met l y ws rm Pc Qc XC mc ms free) (hblind : FrameBlind Pc) (hrc : rm.cells = mc) (hrs : rm.slots = ms)
    (hframes : rm.frames + 1 ≤ R.frames) (hlocals : W9 + (maxL + 11) + rm.locals ≤ R.locals)
    (hws : ∀ w ∈ ws, ∀ a' U, s.WarmedH U.vm → w.before a' U = true) (hcode : Cond.codeWith y bytes maxL ret hh ∈ ws) (hinit : ∀ a' U, s.WarmedH U.vm → (Cond.initialized y.cls).before a' U = true) :
    vx_Back l R p e below s sargs y len W9 (PreOf R mc ms Pc) (PostOf Qc mc ms free) (vx_Post XC mc ms free) := by
  intro m meth c A g ig mk a X hg hsize hdg hW hn hp
  have h1 : (headSpec ws rm).pre.before a A.U = true := atoms_intro fun w hw => hws w hw _ _ X.warmed
  have h2 : (Cond.codeWith y bytes maxL ret hh).before a A.U = true := hws _ hcode _ _ X.warmed
  have h3 : (Cond.initialized y.cls).before a A.U = true := hinit _ _ X.warmed
  have h4 : A.cells + (headSpec ws rm).room.cells ≤ R.cells := by rw [show (headSpec ws rm).room.cells = mc from hrc]; exact hp.1
  have h5 : A.slots + (headSpec ws rm).room.slots ≤ R.slots := by rw [show (headSpec ws rm).room.slots = ms from hrs]; exact hp.2.1
  have hPc : Pc a (A.U.calling g mk a) := hblind _ _ _ _ hp.2.2
  obtain ⟨U, Ls, c0, s0⟩ := A
  dsimp only [Pt.U, Pt.locs, Pt.cells, Pt.slots] at h1 h2 h3 h4 h5 X hn hPc ⊢
  obtain ⟨m9, methY, cY, hn9, hmY, hcY, -, hlY, -⟩ := Cond.codeWith_spec h2
  cases Option.some.inj (hn9.symm.trans hn)
  obtain ⟨kY, hkY, -⟩ := className_of_methodNamed hn
  have hinitY : kY.init = .initialized := Cond.initialized_spec (findClass_of_methodNamed hn) hkY h3
  have h : At U g.method c below := by rw [hg]; exact X.here
  have hlocals9 : W9 + (maxL + 11) + (headSpec ws rm).room.locals ≤ R.locals := hlocals
  have happ : (headSpec ws rm).appliesLoose y e.platform (U.calling g mk a) = true :=
    Spec.appliesLoose_calling (g := g) h hdg hn hkY hinitY
      (X.room_calling (g := g) (R' := (headSpec ws rm).room) hsize hmY hcY hframes (by rw [hlY]; omega) h4 h5) h1
  obtain ⟨mid, hmid⟩ := h.above
  have hfr : (U.setTop g).frames = (.java g :: mid) ++ below := by rw [State.frames_setTop' g h.top, hmid]; rfl
  obtain ⟨o, s₂, hsteps, -, hend, hq⟩ := Steps.callFree hM p X.admits X.cas X.clock (acts := []) hfr happ hPc trivial
  have hq' : vx_Q Qc XC mc ms free a (U.calling g mk a) o s₂ := hq
  rw [State.frames_setTop' g h.top] at hend
  obtain ⟨g₀, hg0⟩ := Option.isSome_iff_exists.mp h.top
  obtain ⟨r, hr⟩ := State.topJava?_eq_some.mp hg0
  have hr' : (({ U with heap := s₂.heap, slotsUsed := s₂.slotsUsed } : State).setVm s₂.vm).frames = .java g₀ :: r := hr
  rcases hq' with ⟨hqc, L, hfe, hL⟩ | ⟨q, rfl, E, ce, L, hx, hce, hcv, hcl, hW₂, hsm, hL⟩
  · obtain ⟨⟨v, rfl⟩, hW₂, e2, q2, q3, q4, q5, q6⟩ := id hfe
    have e3 : s₂ = ({ (U.calling g mk a).setFrames s₂.frames with heap := s₂.heap, slotsUsed := s₂.slotsUsed } : State).setVm s₂.vm := by
      have : s₂ = ({ s₂ with vm := (U.calling g mk a).vm } : State).setVm s₂.vm := rfl
      rw [e2] at this
      exact this
    obtain ⟨c₂, i₂, len₂, hc₂, hd₂, hf₂⟩ := hend
    have hW' : U.WarmedH s₂.vm := hW₂
    have hcc : c₂ = c := by
      have h1 : s₂.code? g.method = U.code? g.method := by
        rw [State.code?_eq, State.code?_eq, hW'.alike.method?]
      exact Option.some.inj (hc₂.symm.trans (h1.trans h.code))
    subst hcc
    have hlen : len₂ = len := by rw [hdg] at hd₂; cases hd₂; rfl
    subst hlen
    have hs₂ : s₂ = (({ U with heap := s₂.heap, slotsUsed := s₂.slotsUsed } : State).setVm s₂.vm).setTop { g with pc := g.pc + len₂, stack := v.toList ++ g.stack } := by
      refine e3.trans ?_
      rw [hf₂, State.calling_eq h.top, State.setFrames_setFrames, State.setTop_of_frames _ hr', hr]
      rfl
    have hsame : U.sameButNew ({ U with heap := s₂.heap, slotsUsed := s₂.slotsUsed } : State) L mc ms := by
      refine ⟨?_, q2, q3, q4, q5, q6⟩
      obtain ⟨t, ht, -⟩ := State.frames_cons hr
      show ({ U with heap := s₂.heap, slotsUsed := s₂.slotsUsed } : State) = { U.setFrames U.frames with heap := s₂.heap, slotsUsed := s₂.slotsUsed }
      rw [State.setFrames_self ht]
    subst hg
    refine Or.inl ⟨v, ⟨(({ U with heap := s₂.heap, slotsUsed := s₂.slotsUsed } : State).setVm s₂.vm), Ls ++ L, c0 + mc, s0 + ms⟩,
      ⟨X.admits, X.cas, X.clock, X.frames, X.room, X.hears, X.method, X.code, (X.here.setHeapUsed s₂.heap s₂.slotsUsed).setVm hW'.alike, X.tail, State.WarmedH.trans X.warmed hW', X.limits, X.bytes, X.same.trans (hsame.setVm s.vm)⟩,
      ⟨g, mk, s₂, L, rfl, rfl, hqc, rfl, hL, rfl, rfl⟩, ?_⟩
    show Steps p.tables e below _ ((({ U with heap := s₂.heap, slotsUsed := s₂.slotsUsed } : State).setVm s₂.vm).setTop { g with pc := g.pc + len₂, stack := v.toList ++ g.stack })
    rw [← hs₂]
    exact hsteps
  · obtain ⟨e2, q2, q3, q4, q5, q6⟩ := id hsm
    have e3 : s₂ = ({ (U.calling g mk a).setFrames s₂.frames with heap := s₂.heap, slotsUsed := s₂.slotsUsed } : State).setVm s₂.vm := by
      have : s₂ = ({ s₂ with vm := (U.calling g mk a).vm } : State).setVm s₂.vm := rfl
      rw [e2] at this
      exact this
    have hf₂ : s₂.frames = .throwing q :: .java g :: U.frames.tail := hend
    have hW' : U.WarmedH s₂.vm := hW₂
    have hs₂ : s₂ = ((({ U with heap := s₂.heap, slotsUsed := s₂.slotsUsed } : State).setVm s₂.vm).setTop g).pushFrame (.throwing q) := by
      refine e3.trans ?_
      rw [hf₂, State.calling_eq h.top, State.setFrames_setFrames, State.pushFrame, State.frames_setTop _ hr', State.setTop_of_frames _ hr', State.setFrames_setFrames, hr]
      rfl
    have hsame : U.sameButNew ({ U with heap := s₂.heap, slotsUsed := s₂.slotsUsed } : State) L mc ms := by
      refine ⟨?_, q2, q3, q4, q5, q6⟩
      obtain ⟨t, ht, -⟩ := State.frames_cons hr
      show ({ U with heap := s₂.heap, slotsUsed := s₂.slotsUsed } : State) = { U.setFrames U.frames with heap := s₂.heap, slotsUsed := s₂.slotsUsed }
      rw [State.setFrames_self ht]
    subst hg
    refine Or.inr ⟨q, ⟨(({ U with heap := s₂.heap, slotsUsed := s₂.slotsUsed } : State).setVm s₂.vm), Ls ++ L, c0 + mc, s0 + ms⟩,
      ⟨X.admits, X.cas, X.clock, X.frames, X.room, X.hears, X.method, X.code, (X.here.setHeapUsed s₂.heap s₂.slotsUsed).setVm hW'.alike, X.tail, State.WarmedH.trans X.warmed hW', X.limits, X.bytes, X.same.trans (hsame.setVm s.vm)⟩,
      ⟨g, mk, s₂, L, E, ce, rfl, rfl, hx, hce, hcv, hcl, rfl, hL, rfl, rfl⟩, ?_⟩
    show Steps p.tables e below _ (((({ U with heap := s₂.heap, slotsUsed := s₂.slotsUsed } : State).setVm s₂.vm).setTop g).pushFrame (.throwing q))
    rw [← hs₂]
    exact hsteps
end
variable {p : Program} {l : Launch} {e : Env} {R : Room} {s : State} {m : MethodId} {args : Array Value} {below : List Frame} {meth : Method} {c : Code} {T : State} {H : Heap} {locs : List Loc} {cells slots : Nat}
theorem vx_callVX (X : Stand p l e R s m args below meth c T locs cells slots) (hexec : p.tables.exec = Jvm.exec) {own C : String} {index : Nat} {y : MethodName} {bytes : ByteArray} {maxL : Nat} {ret : Option FieldType} {hh : List (Nat × Nat × Nat × Nat)}
    (hown : s.vm.findClass own = some m.cls) (hlink : (Cond.methodLink own index y).before args s = true) (hinst : (Cond.instanceMethod y).before args s = true) (hsel : (Cond.selects C y y).before args s = true)
    (hcode : (Cond.codeWith y bytes maxL ret hh).before args s = true) (hy : y.cls ≠ "java/lang/invoke/MethodHandle" ∧ y.cls ≠ "java/lang/invoke/VarHandle")
    {W9 : Nat} {Pre : Pt → Array Value → Prop} {Post : Pt → Array Value → Option Value → Pt → Prop} {PostX : Pt → Array Value → Addr → Pt → Prop} (hK : vx_Back l R p e below s args y 3 W9 Pre Post PostX)
    {b : Addr} {cellB : Cell} (hcell : T.heap[b]? = some cellB) (hobj : cellB.vm.isStatics = false) (hcls : s.vm.findClass C = some cellB.cls)
    {g : JFrame} (hg : g.method = m) (hsize : g.locals.size = c.maxLocals) {argsL rest : List Value} (hlen : ∀ sig, parseMethodDescriptor y.desc = some sig → argsL.length = sig.parameters.length)
    (hstack : g.stack = argsL.reverse ++ .ref b :: rest) (hW : 2 * g.monitorRoom + (rest.map fun v => v.category).sum ≤ W9) (hdg : decode c.code g.pc = .ok (.invokevirtual index, 3))
    (hpre : ∀ vm₁, s.WarmedH vm₁ → Pre ⟨T.setVm vm₁, locs, cells, slots⟩ (Value.ref b :: argsL).toArray) :
    (∃ (v : Option Value) (vm₁ : Vm) (B : Pt), s.WarmedH vm₁ ∧ Stand p l e R s m args below meth c B.U B.locs B.cells B.slots ∧ Post ⟨T.setVm vm₁, locs, cells, slots⟩ (Value.ref b :: argsL).toArray v B ∧
      ∀ target, Steps p.tables e below (B.U.setTop { g with pc := g.pc + 3, stack := v.toList ++ rest }) target → Steps p.tables e below (T.setTop g) target) ∨
    (∃ (q : Addr) (vm₁ : Vm) (B : Pt), s.WarmedH vm₁ ∧ Stand p l e R s m args below meth c B.U B.locs B.cells B.slots ∧ PostX ⟨T.setVm vm₁, locs, cells, slots⟩ (Value.ref b :: argsL).toArray q B ∧
      Steps p.tables e below (T.setTop g) ((B.U.setTop { g with stack := rest }).pushFrame (.throwing q))) := by
  obtain ⟨mk, methM, hnamed, hmethM, hstM, habM⟩ := Cond.instanceMethod_spec hinst
  obtain ⟨m8, methM', cM, hn8, hmethM', -, -, -, -, -, -, hsigM⟩ := Cond.codeWith_spec hcode
  cases Option.some.inj (hn8.symm.trans hnamed)
  cases hmethM.symm.trans hmethM'
  obtain ⟨c2, r2, m2, q1, q2, q3, q4, kP, hkP, hkPi⟩ := Cond.selects_spec hsel
  cases hcls.symm.trans q1
  cases (State.methodFound?_of_named hnamed hy).symm.trans q2
  cases hnamed.symm.trans q3
  have hselP : selectMethod e.platform s.vm cellB.cls mk = .method mk := by rw [Launch.admits_selectMethod X.admits]; exact q4
  obtain ⟨vm₁, X₁, hstep₁⟩ := X.invokevirtual hexec hown hlink hnamed hmethM hstM hkP hkPi hy (a := b) (cell := cellB) hcell
    (fun z h => by rw [h] at hobj; cases hobj) hselP hmethM habM hkP hkPi (g := g) hg (argsL := argsL) (rest := rest) (hlen _ hsigM) hstack hdg
  rcases hK m meth c ⟨T.setVm vm₁, locs, cells, slots⟩ { g with stack := rest } (.invokevirtual index) mk (Value.ref b :: argsL).toArray X₁ hg hsize hdg hW (X₁.named hnamed) (hpre vm₁ X₁.warmed) with ⟨v, B, X', hpost, hsteps⟩ | ⟨q, B, X', hpost, hsteps⟩
  · exact Or.inl ⟨v, vm₁, B, X₁.warmed, X', hpost, fun target h => hstep₁ _ fun acts => by rw [doInvoke_state]; exact hsteps.trans h⟩
  · exact Or.inr ⟨q, vm₁, B, X₁.warmed, X', hpost, hstep₁ _ fun acts => by rw [doInvoke_state]; exact hsteps⟩
theorem vx_callSX (X : Stand p l e R s m args below meth c T locs cells slots) (hexec : p.tables.exec = Jvm.exec) {own : String} {index : Nat} {y : MethodName} {bytes : ByteArray} {maxL : Nat} {ret : Option FieldType} {hh : List (Nat × Nat × Nat × Nat)}
    (hown : s.vm.findClass own = some m.cls) (hlink : (Cond.methodLink own index y).before args s = true) (hstat : (Cond.static y).before args s = true) (hinit : (Cond.initialized y.cls).before args s = true)
    (hcode : (Cond.codeWith y bytes maxL ret hh).before args s = true) (hy : y.cls ≠ "java/lang/invoke/MethodHandle" ∧ y.cls ≠ "java/lang/invoke/VarHandle")
    {W9 : Nat} {Pre : Pt → Array Value → Prop} {Post : Pt → Array Value → Option Value → Pt → Prop} {PostX : Pt → Array Value → Addr → Pt → Prop} (hK : vx_Back l R p e below s args y 3 W9 Pre Post PostX)
    {g : JFrame} (hg : g.method = m) (hsize : g.locals.size = c.maxLocals) {argsL rest : List Value} (hlen : ∀ sig, parseMethodDescriptor y.desc = some sig → argsL.length = sig.parameters.length)
    (hstack : g.stack = argsL.reverse ++ rest) (hW : 2 * g.monitorRoom + (rest.map fun v => v.category).sum ≤ W9) (hdg : decode c.code g.pc = .ok (.invokestatic index, 3))
    (hpre : ∀ vm₁, s.WarmedH vm₁ → Pre ⟨T.setVm vm₁, locs, cells, slots⟩ argsL.toArray) :
    (∃ (v : Option Value) (vm₁ : Vm) (B : Pt), s.WarmedH vm₁ ∧ Stand p l e R s m args below meth c B.U B.locs B.cells B.slots ∧ Post ⟨T.setVm vm₁, locs, cells, slots⟩ argsL.toArray v B ∧
      ∀ target, Steps p.tables e below (B.U.setTop { g with pc := g.pc + 3, stack := v.toList ++ rest }) target → Steps p.tables e below (T.setTop g) target) ∨
    (∃ (q : Addr) (vm₁ : Vm) (B : Pt), s.WarmedH vm₁ ∧ Stand p l e R s m args below meth c B.U B.locs B.cells B.slots ∧ PostX ⟨T.setVm vm₁, locs, cells, slots⟩ argsL.toArray q B ∧
      Steps p.tables e below (T.setTop g) ((B.U.setTop { g with stack := rest }).pushFrame (.throwing q))) := by
  obtain ⟨mk, methM, cM, hnamed, hmethM, -, -, -, -, -, -, hsigM⟩ := Cond.codeWith_spec hcode
  have hstatic : methM.isStatic = true := Cond.static_spec hnamed hmethM hstat
  obtain ⟨kP, hkP, -⟩ := className_of_methodNamed hnamed
  have hinitP : kP.init = .initialized := Cond.initialized_spec (findClass_of_methodNamed hnamed) hkP hinit
  obtain ⟨vm₁, X₁, hstep₁⟩ := X.invokestatic hexec hown hlink hnamed hmethM hstatic hkP hinitP hy (g := g) hg (argsL := argsL) (rest := rest) (hlen _ hsigM) hstack hdg
  rcases hK m meth c ⟨T.setVm vm₁, locs, cells, slots⟩ { g with stack := rest } (.invokestatic index) mk argsL.toArray X₁ hg hsize hdg hW (X₁.named hnamed) (hpre vm₁ X₁.warmed) with ⟨v, B, X', hpost, hsteps⟩ | ⟨q, B, X', hpost, hsteps⟩
  · exact Or.inl ⟨v, vm₁, B, X₁.warmed, X', hpost, fun target h => hstep₁ _ fun acts => by rw [doInvoke_state]; exact hsteps.trans h⟩
  · exact Or.inr ⟨q, vm₁, B, X₁.warmed, X', hpost, hstep₁ _ fun acts => by rw [doInvoke_state]; exact hsteps⟩
theorem vx_callVW (X : Stand p l e R s m args below meth c T locs cells slots) (hexec : p.tables.exec = Jvm.exec) {own C : String} {index : Nat} {y : MethodName} {bytes : ByteArray} {maxL : Nat} {ret : Option FieldType} {hh : List (Nat × Nat × Nat × Nat)}
    (hown : s.vm.findClass own = some m.cls) (hlink : (Cond.methodLink own index y).before args s = true) (hinst : (Cond.instanceMethod y).before args s = true) (hsel : (Cond.selects C y y).before args s = true)
    (hcode : (Cond.codeWith y bytes maxL ret hh).before args s = true) (hy : y.cls ≠ "java/lang/invoke/MethodHandle" ∧ y.cls ≠ "java/lang/invoke/VarHandle")
    {W9 : Nat} {Pre : Pt → Array Value → Prop} {Post : Pt → Array Value → Option Value → Pt → Prop} (hK : Back l R p e below s args y 3 W9 Pre Post)
    {b : Addr} {cellB : Cell} (hcell : T.heap[b]? = some cellB) (hobj : cellB.vm.isStatics = false) (hcls : s.vm.findClass C = some cellB.cls)
    {g : JFrame} (hg : g.method = m) (hsize : g.locals.size = c.maxLocals) {argsL rest : List Value} (hlen : ∀ sig, parseMethodDescriptor y.desc = some sig → argsL.length = sig.parameters.length)
    (hstack : g.stack = argsL.reverse ++ .ref b :: rest) (hW : 2 * g.monitorRoom + (rest.map fun v => v.category).sum ≤ W9) (hdg : decode c.code g.pc = .ok (.invokevirtual index, 3))
    (hpre : ∀ vm₁, s.WarmedH vm₁ → Pre ⟨T.setVm vm₁, locs, cells, slots⟩ (Value.ref b :: argsL).toArray) :
    ∃ (v : Option Value) (vm₁ : Vm) (B : Pt), s.WarmedH vm₁ ∧ Stand p l e R s m args below meth c B.U B.locs B.cells B.slots ∧ Post ⟨T.setVm vm₁, locs, cells, slots⟩ (Value.ref b :: argsL).toArray v B ∧
      ∀ target, Steps p.tables e below (B.U.setTop { g with pc := g.pc + 3, stack := v.toList ++ rest }) target → Steps p.tables e below (T.setTop g) target := by
  obtain ⟨mk, methM, hnamed, hmethM, hstM, habM⟩ := Cond.instanceMethod_spec hinst
  obtain ⟨m8, methM', cM, hn8, hmethM', -, -, -, -, -, -, hsigM⟩ := Cond.codeWith_spec hcode
  cases Option.some.inj (hn8.symm.trans hnamed)
  cases hmethM.symm.trans hmethM'
  obtain ⟨c2, r2, m2, q1, q2, q3, q4, kP, hkP, hkPi⟩ := Cond.selects_spec hsel
  cases hcls.symm.trans q1
  cases (State.methodFound?_of_named hnamed hy).symm.trans q2
  cases hnamed.symm.trans q3
  have hselP : selectMethod e.platform s.vm cellB.cls mk = .method mk := by rw [Launch.admits_selectMethod X.admits]; exact q4
  obtain ⟨vm₁, X₁, hstep₁⟩ := X.invokevirtual hexec hown hlink hnamed hmethM hstM hkP hkPi hy (a := b) (cell := cellB) hcell
    (fun z h => by rw [h] at hobj; cases hobj) hselP hmethM habM hkP hkPi (g := g) hg (argsL := argsL) (rest := rest) (hlen _ hsigM) hstack hdg
  obtain ⟨v, B, X', hpost, hsteps⟩ := hK m meth c ⟨T.setVm vm₁, locs, cells, slots⟩ { g with stack := rest } (.invokevirtual index) mk (Value.ref b :: argsL).toArray X₁ hg hsize hdg hW (X₁.named hnamed) (hpre vm₁ X₁.warmed)
  exact ⟨v, vm₁, B, X₁.warmed, X', hpost, fun target h => hstep₁ _ fun acts => by rw [doInvoke_state]; exact hsteps.trans h⟩
abbrev vx_CVW (R : Room) (s : State) (args : Array Value) (own C : String) (index : Nat) (y : MethodName) (bytes : ByteArray) (maxL : Nat) (ret : Option FieldType) (hh : List (Nat × Nat × Nat × Nat)) (ws : List Cond) (rm : Room) (mc ms n : Nat) : Prop :=
  (rm.cells = mc ∧ rm.slots = ms ∧ rm.frames + 1 ≤ R.frames ∧ 8 + (maxL + 11) + rm.locals ≤ R.locals ∧ (∀ w ∈ ws, ∀ (a' : Array Value) (U : State), s.WarmedH U.vm → w.before a' U = true) ∧ Cond.codeWith y bytes maxL ret hh ∈ ws) ∧
  (Cond.codeWith y bytes maxL ret hh).before args s = true ∧ (Cond.initialized y.cls).before args s = true ∧ (y.cls ≠ "java/lang/invoke/MethodHandle" ∧ y.cls ≠ "java/lang/invoke/VarHandle") ∧
  (∀ sig, parseMethodDescriptor y.desc = some sig → n = sig.parameters.length) ∧ (Cond.methodLink own index y).before args s = true ∧ (Cond.instanceMethod y).before args s = true ∧ (Cond.selects C y y).before args s = true
theorem vx_cwVW {own C : String} {index maxL mc ms : Nat} {y : MethodName} {bytes : ByteArray} {ret : Option FieldType} {hh : List (Nat × Nat × Nat × Nat)} {Ts ws ws' : List Cond} {rm : Room} (n : Nat) (ht : ∀ w ∈ Ts, w.before args s = true) (hT : GoodIn Ts (wsV own index C y ws)) (hw : ws = Cond.codeWith y bytes maxL ret hh :: ws') (hrc : rm.cells = mc) (hrs : rm.slots = ms)
    (hd : y.cls = C ∧ y.cls ≠ "java/lang/invoke/MethodHandle" ∧ y.cls ≠ "java/lang/invoke/VarHandle" ∧ (parseMethodDescriptor y.desc).map (fun d => d.parameters.length) = some n) (hR : rm.frames + 1 ≤ R.frames ∧ 8 + (maxL + 11) + rm.locals ≤ R.locals) :
    vx_CVW R s args own C index y bytes maxL ret hh ws rm mc ms n := by
  obtain ⟨hC, hd⟩ := hd
  subst hC
  have ok : ∀ w ∈ wsV own index y.cls y ws, w.before args s = true := fun w h => ht w (hT w h).1
  have hG : GoodIn Ts ws := fun w h => hT w (by unfold wsV; exact List.mem_append_right _ h)
  have hc : Cond.codeWith y bytes maxL ret hh ∈ ws := by rw [hw]; exact List.mem_cons_self
  refine ⟨⟨hrc, hrs, hR.1, hR.2, pay_in ht hG, hc⟩, ht _ (hG _ hc).1, ok _ (by simp [wsV]), ⟨hd.1, hd.2.1⟩, fun sig h => ?_, ok _ (by simp [wsV]), ok _ (by simp [wsV]), ok _ (by simp [wsV])⟩
  have h2 := hd.2.2
  rw [h] at h2
  exact (Option.some.inj h2).symm
theorem vx_runVW {y : MethodName} {bytes cc : ByteArray} {maxL nL mc ms n index : Nat} {ret : Option FieldType} {hh : List (Nat × Nat × Nat × Nat)} {ws : List Cond} {rm : Room} {Pc : Array Value → State → Prop} {Qc : Array Value → State → Outcome → State → Prop} {free : Addr → Prop} {Ts : List Cond} {own C : String} {b : Addr} {As rest : List Value} {g : JFrame}
    (S : CallFix p m c cc nL s args Ts own) (hM : Met l y ws rm Pc Qc mc ms free) (cw : vx_CVW R s args own C index y bytes maxL ret hh ws rm mc ms n) (hp : PreV s H C b Pc As)
    (hg : g.method = m) (hn : As.length = n) (hsize : g.locals.size = nL) (hstack : g.stack = As.reverse ++ .ref b :: rest) (hW : 2 * g.monitorRoom + (rest.map fun v => v.category).sum ≤ 8) (hdg : decode cc g.pc = .ok (.invokevirtual index, 3)) (hf : cells + mc ≤ R.cells ∧ slots + ms ≤ R.slots) :
    va_Run p l e R s m args below meth c H locs cells slots mc ms g rest (Qc (Value.ref b :: As).toArray) free := by
  obtain ⟨⟨hrc, hrs, hfr, hlo, hws, hcw⟩, hcode, hini, hy, hlen, hl, hin, hse⟩ := cw
  have hK : Back l R p e below s args y 3 8 (PreOf R mc ms Pc) (PostOf Qc mc ms free) := va_backW (hh := hh) (bytes := bytes) (maxL := maxL) (ret := ret) hM hp.1 hrc hrs hfr hlo hws hcw (fun a' U hW => word_at hW (Or.inl (by first | rfl | simp [Cond.onTables, Cond.keeps, Cond.steady])) hini)
  obtain ⟨hx, hb, hml, ho, -⟩ := S
  obtain ⟨-, ⟨cellB, hcB, hoB, hclB⟩, hPc⟩ := hp
  intro T hT X
  obtain ⟨v, vm₁, ⟨U', l2, c2, s2⟩, hW₁, X', ⟨g', mk, t, L, e1, e2, hq, h1, hL, h2, h3⟩, st⟩ := vx_callVW X hx (C := C) (hh := hh) (bytes := bytes) (maxL := maxL) (ret := ret) ho hl hin hse hcode hy hK (by rw [hT]; exact hcB) hoB hclB hg (hsize.trans hml.symm) (argsL := As) (rest := rest) (fun sig h => hn.trans (hlen sig h)) hstack hW (by rw [hb]; exact hdg)
    (fun vm₁ hW₁ => ⟨hf.1, hf.2, hPc (T.setVm vm₁) hT hW₁⟩)
  dsimp only [Pt.U, Pt.locs, Pt.cells, Pt.slots] at X' e1 e2 h1 h2 h3 st
  subst h1; subst h2; subst h3
  exact ⟨v, (T.setVm vm₁).calling g' mk (Value.ref b :: As).toArray, t, U', L, hT, X', hL, e1, e2, hq, st⟩
section
variable {y : MethodName} {bytes cc : ByteArray} {maxL nL mc ms n index : Nat} {ret : Option FieldType} {ws : List Cond} {rm : Room} {Pc : Array Value → State → Prop} {Qc : Array Value → State → Outcome → State → Prop} {XC : String → State → State → Prop} {free : Addr → Prop} {Ts : List Cond} {own C : String} {b : Addr} {As rest : List Value} {g : JFrame}
theorem vx_runVX {hh : List (Nat × Nat × Nat × Nat)} (S : CallFix p m c cc nL s args Ts own) (hM : vx_Met l y ws rm Pc Qc XC mc ms free) (cw : vx_CVW R s args own C index y bytes maxL ret hh ws rm mc ms n) (hp : PreV s H C b Pc As)
    (hg : g.method = m) (hn : As.length = n) (hsize : g.locals.size = nL) (hstack : g.stack = As.reverse ++ .ref b :: rest) (hW : 2 * g.monitorRoom + (rest.map fun v => v.category).sum ≤ 8) (hdg : decode cc g.pc = .ok (.invokevirtual index, 3)) (hf : cells + mc ≤ R.cells ∧ slots + ms ≤ R.slots) :
    vx_Run p l e R s m args below meth c H locs cells slots mc ms g rest (Qc (Value.ref b :: As).toArray) XC free := by
  obtain ⟨⟨hrc, hrs, hfr, hlo, hws, hcw⟩, hcode, hini, hy, hlen, hl, hin, hse⟩ := cw
  have hK : vx_Back l R p e below s args y 3 8 (PreOf R mc ms Pc) (PostOf Qc mc ms free) (vx_Post XC mc ms free) := vx_backW (hh := hh) (bytes := bytes) (maxL := maxL) (ret := ret) hM hp.1 hrc hrs hfr hlo hws hcw (fun a' U hW => word_at hW (Or.inl (by first | rfl | simp [Cond.onTables, Cond.keeps, Cond.steady])) hini)
  obtain ⟨hx, hb, hml, ho, -⟩ := S
  obtain ⟨-, ⟨cellB, hcB, hoB, hclB⟩, hPc⟩ := hp
  intro T hT X
  rcases vx_callVX X hx (C := C) (hh := hh) (bytes := bytes) (maxL := maxL) (ret := ret) ho hl hin hse hcode hy hK (by rw [hT]; exact hcB) hoB hclB hg (hsize.trans hml.symm) (argsL := As) (rest := rest) (fun sig h => hn.trans (hlen sig h)) hstack hW (by rw [hb]; exact hdg)
    (fun vm₁ hW₁ => ⟨hf.1, hf.2, hPc (T.setVm vm₁) hT hW₁⟩) with ⟨v, vm₁, ⟨U', l2, c2, s2⟩, hW₁, X', ⟨g', mk, t, L, e1, e2, hq, h1, hL, h2, h3⟩, st⟩ | ⟨q, vm₁, ⟨U', l2, c2, s2⟩, hW₁, X', ⟨g', mk, t, L, E, ce, e1, e2, hq, hce, hcv, hcl, h1, hL, h2, h3⟩, st⟩
  · dsimp only [Pt.U, Pt.locs, Pt.cells, Pt.slots] at X' e1 e2 h1 h2 h3 st
    subst h1; subst h2; subst h3
    exact Or.inl ⟨v, (T.setVm vm₁).calling g' mk (Value.ref b :: As).toArray, t, U', L, hT, X', hL, e1, e2, hq, st⟩
  · dsimp only [Pt.U, Pt.locs, Pt.cells, Pt.slots] at X' e1 e2 h1 h2 h3 st hcl
    subst h1; subst h2; subst h3
    exact Or.inr ⟨q, (T.setVm vm₁).calling g' mk (Value.ref b :: As).toArray, t, U', L, E, ce, hT, X', hL, e1, e2, hq, hce, hcv, vx_cls hW₁ hcl, st⟩
theorem vx_runSX {hh : List (Nat × Nat × Nat × Nat)} (S : CallFix p m c cc nL s args Ts own) (hM : vx_Met l y ws rm Pc Qc XC mc ms free) (cw : vx_CSW R s args own index y bytes maxL ret hh ws rm mc ms n) (hp : PreS s H Pc As)
    (hg : g.method = m) (hn : As.length = n) (hsize : g.locals.size = nL) (hstack : g.stack = As.reverse ++ rest) (hW : 2 * g.monitorRoom + (rest.map fun v => v.category).sum ≤ 8) (hdg : decode cc g.pc = .ok (.invokestatic index, 3)) (hf : cells + mc ≤ R.cells ∧ slots + ms ≤ R.slots) :
    vx_Run p l e R s m args below meth c H locs cells slots mc ms g rest (Qc As.toArray) XC free := by
  obtain ⟨⟨hrc, hrs, hfr, hlo, hws, hcw⟩, hcode, hini, hy, hlen, hl, hstt⟩ := cw
  have hK : vx_Back l R p e below s args y 3 8 (PreOf R mc ms Pc) (PostOf Qc mc ms free) (vx_Post XC mc ms free) := vx_backW (hh := hh) (bytes := bytes) (maxL := maxL) (ret := ret) hM hp.1 hrc hrs hfr hlo hws hcw (fun a' U hW => word_at hW (Or.inl (by first | rfl | simp [Cond.onTables, Cond.keeps, Cond.steady])) hini)
  obtain ⟨hx, hb, hml, ho, -⟩ := S
  intro T hT X
  rcases vx_callSX X hx (hh := hh) (bytes := bytes) (maxL := maxL) (ret := ret) ho hl hstt hini hcode hy hK hg (hsize.trans hml.symm) (argsL := As) (rest := rest) (fun sig h => hn.trans (hlen sig h)) hstack hW (by rw [hb]; exact hdg)
    (fun vm₁ hW₁ => ⟨hf.1, hf.2, hp.2 (T.setVm vm₁) hT hW₁⟩) with ⟨v, vm₁, ⟨U', l2, c2, s2⟩, hW₁, X', ⟨g', mk, t, L, e1, e2, hq, h1, hL, h2, h3⟩, st⟩ | ⟨q, vm₁, ⟨U', l2, c2, s2⟩, hW₁, X', ⟨g', mk, t, L, E, ce, e1, e2, hq, hce, hcv, hcl, h1, hL, h2, h3⟩, st⟩
  · dsimp only [Pt.U, Pt.locs, Pt.cells, Pt.slots] at X' e1 e2 h1 h2 h3 st
    subst h1; subst h2; subst h3
    exact Or.inl ⟨v, (T.setVm vm₁).calling g' mk As.toArray, t, U', L, hT, X', hL, e1, e2, hq, st⟩
  · dsimp only [Pt.U, Pt.locs, Pt.cells, Pt.slots] at X' e1 e2 h1 h2 h3 st hcl
    subst h1; subst h2; subst h3
    exact Or.inr ⟨q, (T.setVm vm₁).calling g' mk As.toArray, t, U', L, E, ce, hT, X', hL, e1, e2, hq, hce, hcv, vx_cls hW₁ hcl, st⟩
end
end VXH
theorem vx_ofWH {l : Launch} {y : MethodName} {ws ws' : List Cond} {rm : Room} {Pc : Array Value → State → Prop} {Qc : Array Value → State → Outcome → State → Prop} {XC : String → State → State → Prop} {mc ms : Nat} {free : Addr → Prop} {cc : ByteArray} {maxL : Nat} {ret : Option FieldType} {hh : List (Nat × Nat × Nat × Nat)}
    (hy : plainName y.cls = true) (hw : ws = Cond.codeWith y cc maxL ret hh :: ws')
    (body : ∀ p e s m args below meth c s₁, BodyLoose p l y (headSpec ws rm) cc maxL ret e s m args below meth c s₁ → c.maxLocals = maxL → Pc args s →
      W p l e (headSpec ws rm).room s m args below meth c s.heap [] 0 0 (vx_MQ below Qc XC args s mc ms free) (entryFrame m args maxL)) : vx_Met l y ws rm Pc Qc XC mc ms free := by
  refine MetFree.of_bodyS (code := cc) (maxLocals := maxL) (ret := ret) hy ?_ ?_
  · intro args s m h hn
    obtain ⟨m9, meth, c, hn9, h1, h2, h3, h4, -, h5, h6, -⟩ := Cond.codeWith_spec (atoms_spec (ws := ws) h _ (by rw [hw]; exact List.mem_cons_self))
    cases hn.symm.trans hn9
    exact ⟨meth, c, h1, h2, h3, h4, h5, h6⟩
  · intro p e s m args below meth c s₁ B hml hP _
    have hh0 : s₁.heap = s.heap := by rw [B.state]; rfl
    obtain ⟨t, a1, o, b1, b2, b3⟩ := body p e s m args below meth c s₁ B hml hP s₁ hh0 (Stand.of_body B)
    exact ⟨t, o, a1, b1, b2, b3⟩
/-! ===== END ===== -/

def RX0 : String := "Prereqs$Audit"
def TX0 : u_T := fun k => match k with
  | 0 => ("Prereqs$Audit", "slots", "I", false)
  | 1 => ("Prereqs$Audit", "numbers", "[I", true)
  | 2 => ("Prereqs$Audit", "needs", "[I", true)
  | 3 => ("Prereqs$Audit", "fits", "[I", true)
  | 4 => ("Prereqs$Audit", "room", "[I", true)
  | 5 => ("Prereqs$Audit", "got", "[I", true)
  | 6 => ("Prereqs$Audit", "givenTo", "[I", true)
  | 7 => ("Prereqs$Audit", "found", "[I", true)
  | 8 => ("Prereqs$Audit", "comer", "[I", true)
  | _ => ("Prereqs$Audit", "canGive", "[Z", true)
def tyX0 : Nat → FieldType := fun k => match k with
  | 0 => .int
  | 1 => .array .int
  | 2 => .array .int
  | 3 => .array .int
  | 4 => .array .int
  | 5 => .array .int
  | 6 => .array .int
  | 7 => .array .int
  | 8 => .array .int
  | _ => .array .boolean
theorem nmX0 : ∀ a, a < 10 → ∀ b, b < 10 → a ≠ b → (TX0 a).2.1 ≠ (TX0 b).2.1 := by decide +kernel
theorem tyX0_ok : ∀ k, k < 10 → parseFieldDescriptor (TX0 k).2.2.1 = some (tyX0 k) := by decide +kernel
abbrev cX0_init : ByteArray := prog_2_method_1_code
def yX0_init : MethodName := ⟨RX0, "<init>", "()V"⟩
abbrev cX0_open : ByteArray := prog_2_method_2_code
def yX0_open : MethodName := ⟨RX0, "open", "(Ljava/util/ArrayList;LPrereqs$Student;Z)V"⟩
abbrev cX0_noteFits : ByteArray := prog_2_method_3_code
def yX0_noteFits : MethodName := ⟨RX0, "noteFits", "(LPrereqs$Rule;LPrereqs$Student;Z)V"⟩
abbrev cX0_isFit : ByteArray := prog_2_method_4_code
def yX0_isFit : MethodName := ⟨RX0, "isFit", "(II)Z"⟩
abbrev cX0_giveAll : ByteArray := prog_2_method_6_code
def yX0_giveAll : MethodName := ⟨RX0, "giveAll", "()I"⟩
abbrev cX0_giveFrom : ByteArray := prog_2_method_7_code
def yX0_giveFrom : MethodName := ⟨RX0, "giveFrom", "(I)I"⟩
abbrev cX0_give : ByteArray := prog_2_method_8_code
def yX0_give : MethodName := ⟨RX0, "give", "(I)Z"⟩
abbrev cX0_findSlotsFor : ByteArray := prog_2_method_9_code
def yX0_findSlotsFor : MethodName := ⟨RX0, "findSlotsFor", "(II)I"⟩
abbrev cX0_handOn : ByteArray := prog_2_method_10_code
def yX0_handOn : MethodName := ⟨RX0, "handOn", "(I)V"⟩
abbrev cX0_shortRules : ByteArray := prog_2_method_11_code
def yX0_shortRules : MethodName := ⟨RX0, "shortRules", "()I"⟩
abbrev cX0_ruleBits : ByteArray := prog_2_method_12_code
def yX0_ruleBits : MethodName := ⟨RX0, "ruleBits", "(I)I"⟩
abbrev cX0_tryAll : ByteArray := prog_2_method_13_code
def yX0_tryAll : MethodName := ⟨RX0, "tryAll", "()I"⟩
abbrev cX0_trials : ByteArray := prog_2_method_14_code
def yX0_trials : MethodName := ⟨RX0, "trials", "()I"⟩
abbrev cX0_tryCourse : ByteArray := prog_2_method_15_code
def yX0_tryCourse : MethodName := ⟨RX0, "tryCourse", "(I)V"⟩
abbrev cX0_countIn : ByteArray := prog_2_method_16_code
def yX0_countIn : MethodName := ⟨RX0, "countIn", "(II)I"⟩
abbrev cX0_mostTried : ByteArray := prog_2_method_17_code
def yX0_mostTried : MethodName := ⟨RX0, "mostTried", "(I)I"⟩
abbrev cX0_sumOf : ByteArray := prog_2_method_18_code
def yX0_sumOf : MethodName := ⟨RX0, "sumOf", "(I)I"⟩
abbrev cX0_shortRulesByTrial : ByteArray := prog_2_method_19_code
def yX0_shortRulesByTrial : MethodName := ⟨RX0, "shortRulesByTrial", "(I)I"⟩
def RX1 : String := "Prereqs$CountFormula"
def TX1 : u_T := fun k => match k with
  | 0 => ("Prereqs$Formula", "depth", "I", true)
  | 1 => ("Prereqs$CountFormula", "enough", "I", true)
  | 2 => ("Prereqs$CountFormula", "first", "I", true)
  | 3 => ("Prereqs$CountFormula", "second", "I", true)
  | _ => ("Prereqs$CountFormula", "third", "I", true)
def tyX1 : Nat → FieldType := fun k => match k with
  | 0 => .int
  | 1 => .int
  | 2 => .int
  | 3 => .int
  | _ => .int
theorem nmX1 : ∀ a, a < 5 → ∀ b, b < 5 → a ≠ b → (TX1 a).2.1 ≠ (TX1 b).2.1 := by decide +kernel
theorem tyX1_ok : ∀ k, k < 5 → parseFieldDescriptor (TX1 k).2.2.1 = some (tyX1 k) := by decide +kernel
abbrev cX1_init : ByteArray := prog_3_method_1_code
def yX1_init : MethodName := ⟨RX1, "<init>", "(IIIII)V"⟩
abbrev cX1_isTrue : ByteArray := prog_3_method_2_code
def yX1_isTrue : MethodName := ⟨RX1, "isTrue", "(LPrereqs$Student;IJ)Z"⟩
def RX2 : String := "Prereqs$Course"
def TX2 : u_T := fun k => match k with
  | 0 => ("Prereqs$Course", "number", "I", true)
  | 1 => ("Prereqs$Course", "credits", "I", true)
  | 2 => ("Prereqs$Course", "seats", "I", true)
  | 3 => ("Prereqs$Course", "reserved", "[I", true)
  | 4 => ("Prereqs$Course", "waiting", "Ljava/util/ArrayList;", true)
  | _ => ("Prereqs$Course", "requisite", "I", false)
def tyX2 : Nat → FieldType := fun k => match k with
  | 0 => .int
  | 1 => .int
  | 2 => .int
  | 3 => .array .int
  | 4 => .object "java/util/ArrayList"
  | _ => .int
theorem nmX2 : ∀ a, a < 6 → ∀ b, b < 6 → a ≠ b → (TX2 a).2.1 ≠ (TX2 b).2.1 := by decide +kernel
theorem tyX2_ok : ∀ k, k < 6 → parseFieldDescriptor (TX2 k).2.2.1 = some (tyX2 k) := by decide +kernel
abbrev cX2_init : ByteArray := prog_4_method_1_code
def yX2_init : MethodName := ⟨RX2, "<init>", "(III)V"⟩
abbrev cX2_allReserved : ByteArray := prog_4_method_2_code
def yX2_allReserved : MethodName := ⟨RX2, "allReserved", "()I"⟩
abbrev cX2_placeFor : ByteArray := prog_4_method_3_code
def yX2_placeFor : MethodName := ⟨RX2, "placeFor", "(LPrereqs$Student;)I"⟩
abbrev cX2_stopWaiting : ByteArray := prog_4_method_4_code
def yX2_stopWaiting : MethodName := ⟨RX2, "stopWaiting", "(LPrereqs$Student;)V"⟩
def RX3 : String := "Prereqs$CreditsFormula"
def TX3 : u_T := fun k => match k with
  | 0 => ("Prereqs$Formula", "depth", "I", true)
  | _ => ("Prereqs$CreditsFormula", "credits", "I", true)
def tyX3 : Nat → FieldType := fun k => match k with
  | 0 => .int
  | _ => .int
theorem nmX3 : ∀ a, a < 2 → ∀ b, b < 2 → a ≠ b → (TX3 a).2.1 ≠ (TX3 b).2.1 := by decide +kernel
theorem tyX3_ok : ∀ k, k < 2 → parseFieldDescriptor (TX3 k).2.2.1 = some (tyX3 k) := by decide +kernel
abbrev cX3_init : ByteArray := prog_5_method_1_code
def yX3_init : MethodName := ⟨RX3, "<init>", "(I)V"⟩
abbrev cX3_isTrue : ByteArray := prog_5_method_2_code
def yX3_isTrue : MethodName := ⟨RX3, "isTrue", "(LPrereqs$Student;IJ)Z"⟩
def RX4 : String := "Prereqs$Formula"
def TX4 : u_T := fun k => match k with
  | _ => ("", "", "", false)
def tyX4 : Nat → FieldType := fun k => match k with
  | _ => .int
theorem nmX4 : ∀ a, a < 0 → ∀ b, b < 0 → a ≠ b → (TX4 a).2.1 ≠ (TX4 b).2.1 := by decide +kernel
theorem tyX4_ok : ∀ k, k < 0 → parseFieldDescriptor (TX4 k).2.2.1 = some (tyX4 k) := by decide +kernel
abbrev cX4_init : ByteArray := prog_6_method_1_code
def yX4_init : MethodName := ⟨RX4, "<init>", "(I)V"⟩
def RX5 : String := "Prereqs$MarkFormula"
def TX5 : u_T := fun k => match k with
  | 0 => ("Prereqs$Formula", "depth", "I", true)
  | 1 => ("Prereqs$MarkFormula", "course", "I", true)
  | _ => ("Prereqs$MarkFormula", "mark", "I", true)
def tyX5 : Nat → FieldType := fun k => match k with
  | 0 => .int
  | 1 => .int
  | _ => .int
theorem nmX5 : ∀ a, a < 3 → ∀ b, b < 3 → a ≠ b → (TX5 a).2.1 ≠ (TX5 b).2.1 := by decide +kernel
theorem tyX5_ok : ∀ k, k < 3 → parseFieldDescriptor (TX5 k).2.2.1 = some (tyX5 k) := by decide +kernel
abbrev cX5_init : ByteArray := prog_7_method_1_code
def yX5_init : MethodName := ⟨RX5, "<init>", "(II)V"⟩
abbrev cX5_isTrue : ByteArray := prog_7_method_2_code
def yX5_isTrue : MethodName := ⟨RX5, "isTrue", "(LPrereqs$Student;IJ)Z"⟩
def RX6 : String := "Prereqs$NoneFormula"
def TX6 : u_T := fun k => match k with
  | 0 => ("Prereqs$Formula", "depth", "I", true)
  | _ => ("Prereqs$NoneFormula", "part", "I", true)
def tyX6 : Nat → FieldType := fun k => match k with
  | 0 => .int
  | _ => .int
theorem nmX6 : ∀ a, a < 2 → ∀ b, b < 2 → a ≠ b → (TX6 a).2.1 ≠ (TX6 b).2.1 := by decide +kernel
theorem tyX6_ok : ∀ k, k < 2 → parseFieldDescriptor (TX6 k).2.2.1 = some (tyX6 k) := by decide +kernel
abbrev cX6_init : ByteArray := prog_8_method_1_code
def yX6_init : MethodName := ⟨RX6, "<init>", "(II)V"⟩
abbrev cX6_isTrue : ByteArray := prog_8_method_2_code
def yX6_isTrue : MethodName := ⟨RX6, "isTrue", "(LPrereqs$Student;IJ)Z"⟩
def RX7 : String := "Prereqs$Rule"
def TX7 : u_T := fun k => match k with
  | _ => ("", "", "", false)
def tyX7 : Nat → FieldType := fun k => match k with
  | _ => .int
theorem nmX7 : ∀ a, a < 0 → ∀ b, b < 0 → a ≠ b → (TX7 a).2.1 ≠ (TX7 b).2.1 := by decide +kernel
theorem tyX7_ok : ∀ k, k < 0 → parseFieldDescriptor (TX7 k).2.2.1 = some (tyX7 k) := by decide +kernel
def RX8 : String := "Prereqs$Student"
def TX8 : u_T := fun k => match k with
  | 0 => ("Prereqs$Student", "major", "I", false)
  | 1 => ("Prereqs$Student", "taking", "[Z", true)
  | 2 => ("Prereqs$Student", "movedIn", "[Z", true)
  | 3 => ("Prereqs$Student", "termMarks", "[I", true)
  | 4 => ("Prereqs$Student", "best", "[I", true)
  | 5 => ("Prereqs$Student", "tries", "[I", true)
  | _ => ("Prereqs$Student", "tried", "[[I", true)
def tyX8 : Nat → FieldType := fun k => match k with
  | 0 => .int
  | 1 => .array .boolean
  | 2 => .array .boolean
  | 3 => .array .int
  | 4 => .array .int
  | 5 => .array .int
  | _ => .array (.array .int)
theorem nmX8 : ∀ a, a < 7 → ∀ b, b < 7 → a ≠ b → (TX8 a).2.1 ≠ (TX8 b).2.1 := by decide +kernel
theorem tyX8_ok : ∀ k, k < 7 → parseFieldDescriptor (TX8 k).2.2.1 = some (tyX8 k) := by decide +kernel
abbrev cX8_init : ByteArray := prog_10_method_1_code
def yX8_init : MethodName := ⟨RX8, "<init>", "(I)V"⟩
abbrev cX8_hasPassed : ByteArray := prog_10_method_2_code
def yX8_hasPassed : MethodName := ⟨RX8, "hasPassed", "(I)Z"⟩
abbrev cX8_addAttempt : ByteArray := prog_10_method_3_code
def yX8_addAttempt : MethodName := ⟨RX8, "addAttempt", "(II)V"⟩
abbrev cX8_moveCreditIn : ByteArray := prog_10_method_4_code
def yX8_moveCreditIn : MethodName := ⟨RX8, "moveCreditIn", "(I)V"⟩
abbrev cX8_closeTerm : ByteArray := prog_10_method_6_code
def yX8_closeTerm : MethodName := ⟨RX8, "closeTerm", "()I"⟩
def RX9 : String := "Prereqs$TogetherFormula"
def TX9 : u_T := fun k => match k with
  | 0 => ("Prereqs$Formula", "depth", "I", true)
  | _ => ("Prereqs$TogetherFormula", "course", "I", true)
def tyX9 : Nat → FieldType := fun k => match k with
  | 0 => .int
  | _ => .int
theorem nmX9 : ∀ a, a < 2 → ∀ b, b < 2 → a ≠ b → (TX9 a).2.1 ≠ (TX9 b).2.1 := by decide +kernel
theorem tyX9_ok : ∀ k, k < 2 → parseFieldDescriptor (TX9 k).2.2.1 = some (tyX9 k) := by decide +kernel
abbrev cX9_init : ByteArray := prog_11_method_1_code
def yX9_init : MethodName := ⟨RX9, "<init>", "(I)V"⟩
abbrev cX9_isTrue : ByteArray := prog_11_method_2_code
def yX9_isTrue : MethodName := ⟨RX9, "isTrue", "(LPrereqs$Student;IJ)Z"⟩
def RX10 : String := "Prereqs$Transcript"
def TX10 : u_T := fun k => match k with
  | 0 => ("Prereqs$Transcript", "text", "[C", true)
  | _ => ("Prereqs$Transcript", "length", "I", false)
def tyX10 : Nat → FieldType := fun k => match k with
  | 0 => .array .char
  | _ => .int
theorem nmX10 : ∀ a, a < 2 → ∀ b, b < 2 → a ≠ b → (TX10 a).2.1 ≠ (TX10 b).2.1 := by decide +kernel
theorem tyX10_ok : ∀ k, k < 2 → parseFieldDescriptor (TX10 k).2.2.1 = some (tyX10 k) := by decide +kernel
abbrev cX10_init : ByteArray := prog_12_method_1_code
def yX10_init : MethodName := ⟨RX10, "<init>", "()V"⟩
def RX11 : String := "Prereqs"
def TX11 : u_T := fun k => match k with
  | 0 => ("Prereqs", "courses", "Ljava/util/ArrayList;", true)
  | 1 => ("Prereqs", "students", "Ljava/util/ArrayList;", true)
  | 2 => ("Prereqs", "formulas", "Ljava/util/ArrayList;", true)
  | 3 => ("Prereqs", "rules", "Ljava/util/ArrayList;", true)
  | 4 => ("Prereqs", "degreeCredits", "[I", true)
  | 5 => ("Prereqs", "day", "I", false)
  | 6 => ("Prereqs", "term", "I", false)
  | 7 => ("Prereqs", "newcomer", "LPrereqs$Student;", true)
  | 8 => ("Prereqs", "audit", "LPrereqs$Audit;", true)
  | 9 => ("Prereqs", "transcript", "LPrereqs$Transcript;", true)
  | 10 => ("Prereqs", "takenBefore", "[Z", true)
  | _ => ("Prereqs", "reason", "[I", true)
def tyX11 : Nat → FieldType := fun k => match k with
  | 0 => .object "java/util/ArrayList"
  | 1 => .object "java/util/ArrayList"
  | 2 => .object "java/util/ArrayList"
  | 3 => .object "java/util/ArrayList"
  | 4 => .array .int
  | 5 => .int
  | 6 => .int
  | 7 => .object "Prereqs$Student"
  | 8 => .object "Prereqs$Audit"
  | 9 => .object "Prereqs$Transcript"
  | 10 => .array .boolean
  | _ => .array .int
theorem nmX11 : ∀ a, a < 12 → ∀ b, b < 12 → a ≠ b → (TX11 a).2.1 ≠ (TX11 b).2.1 := by decide +kernel
theorem tyX11_ok : ∀ k, k < 12 → parseFieldDescriptor (TX11 k).2.2.1 = some (tyX11 k) := by decide +kernel
abbrev cX11_init : ByteArray := prog_1_method_1_code
def yX11_init : MethodName := ⟨RX11, "<init>", "()V"⟩
abbrev cX11_addCourse : ByteArray := prog_1_method_2_code
def yX11_addCourse : MethodName := ⟨RX11, "addCourse", "(II)I"⟩
abbrev cX11_addStudent : ByteArray := prog_1_method_3_code
def yX11_addStudent : MethodName := ⟨RX11, "addStudent", "(I)I"⟩
abbrev cX11_changeMajor : ByteArray := prog_1_method_4_code
def yX11_changeMajor : MethodName := ⟨RX11, "changeMajor", "(II)I"⟩
abbrev cX11_reserve : ByteArray := prog_1_method_6_code
def yX11_reserve : MethodName := ⟨RX11, "reserve", "(III)I"⟩
abbrev cX11_markFormula : ByteArray := prog_1_method_7_code
def yX11_markFormula : MethodName := ⟨RX11, "markFormula", "(II)I"⟩
abbrev cX11_togetherFormula : ByteArray := prog_1_method_8_code
def yX11_togetherFormula : MethodName := ⟨RX11, "togetherFormula", "(I)I"⟩
abbrev cX11_creditsFormula : ByteArray := prog_1_method_9_code
def yX11_creditsFormula : MethodName := ⟨RX11, "creditsFormula", "(I)I"⟩
abbrev cX11_allFormula : ByteArray := prog_1_method_10_code
def yX11_allFormula : MethodName := ⟨RX11, "allFormula", "(II)I"⟩
abbrev cX11_anyFormula : ByteArray := prog_1_method_11_code
def yX11_anyFormula : MethodName := ⟨RX11, "anyFormula", "(II)I"⟩
abbrev cX11_twoFormula : ByteArray := prog_1_method_12_code
def yX11_twoFormula : MethodName := ⟨RX11, "twoFormula", "(III)I"⟩
abbrev cX11_noneFormula : ByteArray := prog_1_method_13_code
def yX11_noneFormula : MethodName := ⟨RX11, "noneFormula", "(I)I"⟩
abbrev cX11_holds : ByteArray := prog_1_method_14_code
def yX11_holds : MethodName := ⟨RX11, "holds", "(II)Z"⟩
abbrev cX11_require : ByteArray := prog_1_method_15_code
def yX11_require : MethodName := ⟨RX11, "require", "(II)Z"⟩
abbrev cX11_lift : ByteArray := prog_1_method_16_code
def yX11_lift : MethodName := ⟨RX11, "lift", "(I)Z"⟩
abbrev cX11_pass : ByteArray := prog_1_method_17_code
def yX11_pass : MethodName := ⟨RX11, "pass", "(I)I"⟩
abbrev cX11_day : ByteArray := prog_1_method_18_code
def yX11_day : MethodName := ⟨RX11, "day", "()I"⟩
abbrev cX11_enroll : ByteArray := prog_1_method_20_code
def yX11_enroll : MethodName := ⟨RX11, "enroll", "(II)C"⟩
abbrev cX11_outcome : ByteArray := prog_1_method_21_code
def yX11_outcome : MethodName := ⟨RX11, "outcome", "(II)C"⟩
abbrev cX11_drop : ByteArray := prog_1_method_22_code
def yX11_drop : MethodName := ⟨RX11, "drop", "(II)C"⟩
abbrev cX11_mark : ByteArray := prog_1_method_24_code
def yX11_mark : MethodName := ⟨RX11, "mark", "(III)Z"⟩
abbrev cX11_endTerm : ByteArray := prog_1_method_25_code
def yX11_endTerm : MethodName := ⟨RX11, "endTerm", "()I"⟩
abbrev cX11_moveIn : ByteArray := prog_1_method_26_code
def yX11_moveIn : MethodName := ⟨RX11, "moveIn", "(II)I"⟩
abbrev cX11_bestMark : ByteArray := prog_1_method_27_code
def yX11_bestMark : MethodName := ⟨RX11, "bestMark", "(II)I"⟩
abbrev cX11_attempts : ByteArray := prog_1_method_28_code
def yX11_attempts : MethodName := ⟨RX11, "attempts", "(II)I"⟩
abbrev cX11_earnedCredits : ByteArray := prog_1_method_29_code
def yX11_earnedCredits : MethodName := ⟨RX11, "earnedCredits", "(I)I"⟩
abbrev cX11_load : ByteArray := prog_1_method_32_code
def yX11_load : MethodName := ⟨RX11, "load", "(I)I"⟩
abbrev cX11_isEnrolled : ByteArray := prog_1_method_33_code
def yX11_isEnrolled : MethodName := ⟨RX11, "isEnrolled", "(II)Z"⟩
abbrev cX11_enrolled : ByteArray := prog_1_method_34_code
def yX11_enrolled : MethodName := ⟨RX11, "enrolled", "(I)I"⟩
abbrev cX11_waiting : ByteArray := prog_1_method_35_code
def yX11_waiting : MethodName := ⟨RX11, "waiting", "(I)I"⟩
abbrev cX11_placeOf : ByteArray := prog_1_method_36_code
def yX11_placeOf : MethodName := ⟨RX11, "placeOf", "(II)I"⟩
abbrev cX11_freeSeats : ByteArray := prog_1_method_37_code
def yX11_freeSeats : MethodName := ⟨RX11, "freeSeats", "(II)I"⟩
abbrev cX11_isSound : ByteArray := prog_1_method_54_code
def yX11_isSound : MethodName := ⟨RX11, "isSound", "()Z"⟩
abbrev cX11_isWithin : ByteArray := prog_1_method_55_code
def yX11_isWithin : MethodName := ⟨RX11, "isWithin", "(III)Z"⟩
abbrev cX11_checkMajor : ByteArray := prog_1_method_56_code
def yX11_checkMajor : MethodName := ⟨RX11, "checkMajor", "(I)V"⟩
abbrev cX11_checkMark : ByteArray := prog_1_method_57_code
def yX11_checkMark : MethodName := ⟨RX11, "checkMark", "(I)V"⟩
abbrev cX11_studentAt : ByteArray := prog_1_method_58_code
def yX11_studentAt : MethodName := ⟨RX11, "studentAt", "(I)LPrereqs$Student;"⟩
abbrev cX11_courseAt : ByteArray := prog_1_method_59_code
def yX11_courseAt : MethodName := ⟨RX11, "courseAt", "(I)LPrereqs$Course;"⟩
abbrev cX11_formulaAt : ByteArray := prog_1_method_60_code
def yX11_formulaAt : MethodName := ⟨RX11, "formulaAt", "(I)LPrereqs$Formula;"⟩
abbrev cX11_checkFormulaFits : ByteArray := prog_1_method_63_code
def yX11_checkFormulaFits : MethodName := ⟨RX11, "checkFormulaFits", "(I)V"⟩
abbrev cX11_keep : ByteArray := prog_1_method_64_code
def yX11_keep : MethodName := ⟨RX11, "keep", "(LPrereqs$Formula;)I"⟩
abbrev cX11_truthsFor : ByteArray := prog_1_method_65_code
def yX11_truthsFor : MethodName := ⟨RX11, "truthsFor", "(LPrereqs$Student;)J"⟩
abbrev cX11_isMet : ByteArray := prog_1_method_66_code
def yX11_isMet : MethodName := ⟨RX11, "isMet", "(IJ)Z"⟩
abbrev cX11_requisiteHolds : ByteArray := prog_1_method_67_code
def yX11_requisiteHolds : MethodName := ⟨RX11, "requisiteHolds", "(LPrereqs$Student;LPrereqs$Course;)Z"⟩
abbrev cX11_creditsEarned : ByteArray := prog_1_method_70_code
def yX11_creditsEarned : MethodName := ⟨RX11, "creditsEarned", "(LPrereqs$Student;)I"⟩
abbrev cX11_creditsMovedIn : ByteArray := prog_1_method_71_code
def yX11_creditsMovedIn : MethodName := ⟨RX11, "creditsMovedIn", "(LPrereqs$Student;)I"⟩
abbrev cX11_loadOn : ByteArray := prog_1_method_72_code
def yX11_loadOn : MethodName := ⟨RX11, "loadOn", "(LPrereqs$Student;)I"⟩
abbrev cX11_canBear : ByteArray := prog_1_method_73_code
def yX11_canBear : MethodName := ⟨RX11, "canBear", "(LPrereqs$Student;LPrereqs$Course;)Z"⟩
abbrev cX11_takersOf : ByteArray := prog_1_method_74_code
def yX11_takersOf : MethodName := ⟨RX11, "takersOf", "(LPrereqs$Course;)I"⟩
abbrev cX11_takersOfMajor : ByteArray := prog_1_method_75_code
def yX11_takersOfMajor : MethodName := ⟨RX11, "takersOfMajor", "(LPrereqs$Course;I)I"⟩
abbrev cX11_freeFor : ByteArray := prog_1_method_76_code
def yX11_freeFor : MethodName := ⟨RX11, "freeFor", "(LPrereqs$Course;I)I"⟩
abbrev cX11_letterFor : ByteArray := prog_1_method_77_code
def yX11_letterFor : MethodName := ⟨RX11, "letterFor", "(LPrereqs$Student;LPrereqs$Course;)C"⟩
abbrev cX11_canTakeSeat : ByteArray := prog_1_method_78_code
def yX11_canTakeSeat : MethodName := ⟨RX11, "canTakeSeat", "(LPrereqs$Student;LPrereqs$Course;)Z"⟩
abbrev cX11_giveOutSeats : ByteArray := prog_1_method_79_code
def yX11_giveOutSeats : MethodName := ⟨RX11, "giveOutSeats", "()V"⟩
abbrev cX11_giveSeatIn : ByteArray := prog_1_method_80_code
def yX11_giveSeatIn : MethodName := ⟨RX11, "giveSeatIn", "(LPrereqs$Course;)Z"⟩
abbrev cX11_emptyWaitingLists : ByteArray := prog_1_method_81_code
def yX11_emptyWaitingLists : MethodName := ⟨RX11, "emptyWaitingLists", "()V"⟩
abbrev cX11_isWithdrawalDay : ByteArray := prog_1_method_82_code
def yX11_isWithdrawalDay : MethodName := ⟨RX11, "isWithdrawalDay", "()Z"⟩
abbrev cX11_endWithOthers : ByteArray := prog_1_method_83_code
def yX11_endWithOthers : MethodName := ⟨RX11, "endWithOthers", "(LPrereqs$Student;I)V"⟩
abbrev cX11_firstUnmet : ByteArray := prog_1_method_84_code
def yX11_firstUnmet : MethodName := ⟨RX11, "firstUnmet", "(LPrereqs$Student;)I"⟩
abbrev cX11_isCourseSound : ByteArray := prog_1_method_85_code
def yX11_isCourseSound : MethodName := ⟨RX11, "isCourseSound", "(LPrereqs$Course;)Z"⟩
abbrev cX11_auditsAgree : ByteArray := prog_1_method_86_code
def yX11_auditsAgree : MethodName := ⟨RX11, "auditsAgree", "(LPrereqs$Student;)Z"⟩
def RX12 : String := "PrereqsLaw$Told"
def TX12 : u_T := fun k => match k with
  | 0 => ("PrereqsLaw$Told", "kind", "[I", true)
  | 1 => ("PrereqsLaw$Told", "one", "[I", true)
  | 2 => ("PrereqsLaw$Told", "two", "[I", true)
  | 3 => ("PrereqsLaw$Told", "three", "[I", true)
  | 4 => ("PrereqsLaw$Told", "requisite", "[I", true)
  | 5 => ("PrereqsLaw$Told", "credits", "[I", true)
  | 6 => ("PrereqsLaw$Told", "seats", "[I", true)
  | 7 => ("PrereqsLaw$Told", "reserved", "[I", true)
  | _ => ("PrereqsLaw$Told", "major", "[I", true)
def tyX12 : Nat → FieldType := fun k => match k with
  | 0 => .array .int
  | 1 => .array .int
  | 2 => .array .int
  | 3 => .array .int
  | 4 => .array .int
  | 5 => .array .int
  | 6 => .array .int
  | 7 => .array .int
  | _ => .array .int
theorem nmX12 : ∀ a, a < 9 → ∀ b, b < 9 → a ≠ b → (TX12 a).2.1 ≠ (TX12 b).2.1 := by decide +kernel
theorem tyX12_ok : ∀ k, k < 9 → parseFieldDescriptor (TX12 k).2.2.1 = some (tyX12 k) := by decide +kernel
abbrev cX12_init : ByteArray := prog_14_method_1_code
def yX12_init : MethodName := ⟨RX12, "<init>", "()V"⟩
abbrev cX12_holds : ByteArray := prog_14_method_2_code
def yX12_holds : MethodName := ⟨RX12, "holds", "(LPrereqs;II)Z"⟩
abbrev cX12_may : ByteArray := prog_14_method_3_code
def yX12_may : MethodName := ⟨RX12, "may", "(LPrereqs;II)Z"⟩
abbrev cX12_load : ByteArray := prog_14_method_4_code
def yX12_load : MethodName := ⟨RX12, "load", "(LPrereqs;I)I"⟩
abbrev cX12_earned : ByteArray := prog_14_method_5_code
def yX12_earned : MethodName := ⟨RX12, "earned", "(LPrereqs;I)I"⟩
abbrev cX12_of : ByteArray := prog_14_method_6_code
def yX12_of : MethodName := ⟨RX12, "of", "(LPrereqs;II)I"⟩
abbrev cX12_free : ByteArray := prog_14_method_7_code
def yX12_free : MethodName := ⟨RX12, "free", "(LPrereqs;II)I"⟩
abbrev cX12_would : ByteArray := prog_14_method_8_code
def yX12_would : MethodName := ⟨RX12, "would", "(LPrereqs;II)C"⟩
def RX13 : String := "PrereqsModel"
def TX13 : u_T := fun k => match k with
  | _ => ("", "", "", false)
def tyX13 : Nat → FieldType := fun k => match k with
  | _ => .int
theorem nmX13 : ∀ a, a < 0 → ∀ b, b < 0 → a ≠ b → (TX13 a).2.1 ≠ (TX13 b).2.1 := by decide +kernel
theorem tyX13_ok : ∀ k, k < 0 → parseFieldDescriptor (TX13 k).2.2.1 = some (tyX13 k) := by decide +kernel
def RJx145de : String := "java/io/Serializable"
def TJx145de : u_T := fun k => match k with
  | _ => ("", "", "", false)
def tyJx145de : Nat → FieldType := fun k => match k with
  | _ => .int
theorem nmJx145de : ∀ a, a < 0 → ∀ b, b < 0 → a ≠ b → (TJx145de a).2.1 ≠ (TJx145de b).2.1 := by decide +kernel
theorem tyJx145de_ok : ∀ k, k < 0 → parseFieldDescriptor (TJx145de k).2.2.1 = some (tyJx145de k) := by decide +kernel
def RJx00060 : String := "java/lang/ArrayIndexOutOfBoundsException"
def TJx00060 : u_T := fun k => match k with
  | 0 => ("java/lang/Throwable", "backtrace", "Ljava/lang/Object;", false)
  | 1 => ("java/lang/Throwable", "detailMessage", "Ljava/lang/String;", false)
  | 2 => ("java/lang/Throwable", "cause", "Ljava/lang/Throwable;", false)
  | 3 => ("java/lang/Throwable", "stackTrace", "[Ljava/lang/StackTraceElement;", false)
  | 4 => ("java/lang/Throwable", "depth", "I", false)
  | _ => ("java/lang/Throwable", "suppressedExceptions", "Ljava/util/List;", false)
def tyJx00060 : Nat → FieldType := fun k => match k with
  | 0 => .object "java/lang/Object"
  | 1 => .object "java/lang/String"
  | 2 => .object "java/lang/Throwable"
  | 3 => .array (.object "java/lang/StackTraceElement")
  | 4 => .int
  | _ => .object "java/util/List"
theorem nmJx00060 : ∀ a, a < 6 → ∀ b, b < 6 → a ≠ b → (TJx00060 a).2.1 ≠ (TJx00060 b).2.1 := by decide +kernel
theorem tyJx00060_ok : ∀ k, k < 6 → parseFieldDescriptor (TJx00060 k).2.2.1 = some (tyJx00060 k) := by decide +kernel
abbrev cJx00060_init_a7421 : ByteArray := prog_18_method_2_code
def yJx00060_init_a7421 : MethodName := ⟨RJx00060, "<init>", "(Ljava/lang/String;)V"⟩
def RJx8e188 : String := "java/lang/Cloneable"
def TJx8e188 : u_T := fun k => match k with
  | _ => ("", "", "", false)
def tyJx8e188 : Nat → FieldType := fun k => match k with
  | _ => .int
theorem nmJx8e188 : ∀ a, a < 0 → ∀ b, b < 0 → a ≠ b → (TJx8e188 a).2.1 ≠ (TJx8e188 b).2.1 := by decide +kernel
theorem tyJx8e188_ok : ∀ k, k < 0 → parseFieldDescriptor (TJx8e188 k).2.2.1 = some (tyJx8e188 k) := by decide +kernel
def RJxab1ab : String := "java/lang/Iterable"
def TJxab1ab : u_T := fun k => match k with
  | _ => ("", "", "", false)
def tyJxab1ab : Nat → FieldType := fun k => match k with
  | _ => .int
theorem nmJxab1ab : ∀ a, a < 0 → ∀ b, b < 0 → a ≠ b → (TJxab1ab a).2.1 ≠ (TJxab1ab b).2.1 := by decide +kernel
theorem tyJxab1ab_ok : ∀ k, k < 0 → parseFieldDescriptor (TJxab1ab k).2.2.1 = some (tyJxab1ab k) := by decide +kernel
def RJ9 : String := "java/lang/Math"
def TJ9 : u_T := fun k => match k with
  | _ => ("", "", "", false)
def tyJ9 : Nat → FieldType := fun k => match k with
  | _ => .int
theorem nmJ9 : ∀ a, a < 0 → ∀ b, b < 0 → a ≠ b → (TJ9 a).2.1 ≠ (TJ9 b).2.1 := by decide +kernel
theorem tyJ9_ok : ∀ k, k < 0 → parseFieldDescriptor (TJ9 k).2.2.1 = some (tyJ9 k) := by decide +kernel
abbrev cJ9_max_7cf53 : ByteArray := prog_25_method_65_code
def yJ9_max_7cf53 : MethodName := ⟨RJ9, "max", "(II)I"⟩
abbrev cJ9_min_7cf53 : ByteArray := prog_25_method_69_code
def yJ9_min_7cf53 : MethodName := ⟨RJ9, "min", "(II)I"⟩
def RJ0 : String := "java/lang/String"
def TJ0 : u_T := fun k => match k with
  | 0 => ("java/lang/String", "value", "[B", true)
  | _ => ("java/lang/String", "coder", "B", true)
def tyJ0 : Nat → FieldType := fun k => match k with
  | 0 => .array .byte
  | _ => .byte
theorem nmJ0 : ∀ a, a < 2 → ∀ b, b < 2 → a ≠ b → (TJ0 a).2.1 ≠ (TJ0 b).2.1 := by decide +kernel
theorem tyJ0_ok : ∀ k, k < 2 → parseFieldDescriptor (TJ0 k).2.2.1 = some (tyJ0 k) := by decide +kernel
def RJ10 : String := "java/lang/System"
def TJ10 : u_T := fun k => match k with
  | _ => ("", "", "", false)
def tyJ10 : Nat → FieldType := fun k => match k with
  | _ => .int
theorem nmJ10 : ∀ a, a < 0 → ∀ b, b < 0 → a ≠ b → (TJ10 a).2.1 ≠ (TJ10 b).2.1 := by decide +kernel
theorem tyJ10_ok : ∀ k, k < 0 → parseFieldDescriptor (TJ10 k).2.2.1 = some (tyJ10 k) := by decide +kernel
def RJxa1e45 : String := "java/util/AbstractCollection"
def TJxa1e45 : u_T := fun k => match k with
  | _ => ("", "", "", false)
def tyJxa1e45 : Nat → FieldType := fun k => match k with
  | _ => .int
theorem nmJxa1e45 : ∀ a, a < 0 → ∀ b, b < 0 → a ≠ b → (TJxa1e45 a).2.1 ≠ (TJxa1e45 b).2.1 := by decide +kernel
theorem tyJxa1e45_ok : ∀ k, k < 0 → parseFieldDescriptor (TJxa1e45 k).2.2.1 = some (tyJxa1e45 k) := by decide +kernel
abbrev cJxa1e45_init_da8c8 : ByteArray := prog_31_method_1_code
def yJxa1e45_init_da8c8 : MethodName := ⟨RJxa1e45, "<init>", "()V"⟩
def RJxc12de : String := "java/util/AbstractList"
def TJxc12de : u_T := fun k => match k with
  | _ => ("", "", "", false)
def tyJxc12de : Nat → FieldType := fun k => match k with
  | _ => .int
theorem nmJxc12de : ∀ a, a < 0 → ∀ b, b < 0 → a ≠ b → (TJxc12de a).2.1 ≠ (TJxc12de b).2.1 := by decide +kernel
theorem tyJxc12de_ok : ∀ k, k < 0 → parseFieldDescriptor (TJxc12de k).2.2.1 = some (tyJxc12de k) := by decide +kernel
abbrev cJxc12de_init_da8c8 : ByteArray := prog_32_method_1_code
def yJxc12de_init_da8c8 : MethodName := ⟨RJxc12de, "<init>", "()V"⟩
def RJx4a65c : String := "java/util/ArrayList"
def TJx4a65c : u_T := fun k => match k with
  | 0 => ("java/util/AbstractList", "modCount", "I", false)
  | 1 => ("java/util/ArrayList", "elementData", "[Ljava/lang/Object;", false)
  | _ => ("java/util/ArrayList", "size", "I", false)
def tyJx4a65c : Nat → FieldType := fun k => match k with
  | 0 => .int
  | 1 => .array (.object "java/lang/Object")
  | _ => .int
theorem nmJx4a65c : ∀ a, a < 3 → ∀ b, b < 3 → a ≠ b → (TJx4a65c a).2.1 ≠ (TJx4a65c b).2.1 := by decide +kernel
theorem tyJx4a65c_ok : ∀ k, k < 3 → parseFieldDescriptor (TJx4a65c k).2.2.1 = some (tyJx4a65c k) := by decide +kernel
abbrev cJx4a65c_init_da8c8 : ByteArray := prog_33_method_2_code
def yJx4a65c_init_da8c8 : MethodName := ⟨RJx4a65c, "<init>", "()V"⟩
abbrev cJx4a65c_grow_92f84 : ByteArray := prog_33_method_6_code
def yJx4a65c_grow_92f84 : MethodName := ⟨RJx4a65c, "grow", "(I)[Ljava/lang/Object;"⟩
abbrev cJx4a65c_grow_d5877 : ByteArray := prog_33_method_7_code
def yJx4a65c_grow_d5877 : MethodName := ⟨RJx4a65c, "grow", "()[Ljava/lang/Object;"⟩
abbrev cJx4a65c_size_8abf5 : ByteArray := prog_33_method_8_code
def yJx4a65c_size_8abf5 : MethodName := ⟨RJx4a65c, "size", "()I"⟩
abbrev cJx4a65c_elementData_915e3 : ByteArray := prog_33_method_18_code
def yJx4a65c_elementData_915e3 : MethodName := ⟨RJx4a65c, "elementData", "(I)Ljava/lang/Object;"⟩
abbrev cJx4a65c_get_915e3 : ByteArray := prog_33_method_20_code
def yJx4a65c_get_915e3 : MethodName := ⟨RJx4a65c, "get", "(I)Ljava/lang/Object;"⟩
abbrev cJx4a65c_add_72be8 : ByteArray := prog_33_method_24_code
def yJx4a65c_add_72be8 : MethodName := ⟨RJx4a65c, "add", "(Ljava/lang/Object;[Ljava/lang/Object;I)V"⟩
abbrev cJx4a65c_add_9ea2d : ByteArray := prog_33_method_25_code
def yJx4a65c_add_9ea2d : MethodName := ⟨RJx4a65c, "add", "(Ljava/lang/Object;)Z"⟩
abbrev cJx4a65c_remove_915e3 : ByteArray := prog_33_method_29_code
def yJx4a65c_remove_915e3 : MethodName := ⟨RJx4a65c, "remove", "(I)Ljava/lang/Object;"⟩
abbrev cJx4a65c_fastRemove_b59b0 : ByteArray := prog_33_method_39_code
def yJx4a65c_fastRemove_b59b0 : MethodName := ⟨RJx4a65c, "fastRemove", "([Ljava/lang/Object;I)V"⟩
abbrev cJx4a65c_clear_da8c8 : ByteArray := prog_33_method_40_code
def yJx4a65c_clear_da8c8 : MethodName := ⟨RJx4a65c, "clear", "()V"⟩
def RJ7 : String := "java/util/Arrays"
def TJ7 : u_T := fun k => match k with
  | _ => ("", "", "", false)
def tyJ7 : Nat → FieldType := fun k => match k with
  | _ => .int
theorem nmJ7 : ∀ a, a < 0 → ∀ b, b < 0 → a ≠ b → (TJ7 a).2.1 ≠ (TJ7 b).2.1 := by decide +kernel
theorem tyJ7_ok : ∀ k, k < 0 → parseFieldDescriptor (TJ7 k).2.2.1 = some (tyJ7 k) := by decide +kernel
abbrev cJ7_fill_53178 : ByteArray := prog_34_method_103_code
def yJ7_fill_53178 : MethodName := ⟨RJ7, "fill", "([II)V"⟩
abbrev cJ7_copyOf_1904c : ByteArray := prog_34_method_119_code
def yJ7_copyOf_1904c : MethodName := ⟨RJ7, "copyOf", "([Ljava/lang/Object;I)[Ljava/lang/Object;"⟩
abbrev cJ7_copyOf_6403c : ByteArray := prog_34_method_120_code
def yJ7_copyOf_6403c : MethodName := ⟨RJ7, "copyOf", "([Ljava/lang/Object;ILjava/lang/Class;)[Ljava/lang/Object;"⟩
def RJx5ef63 : String := "java/util/Collection"
def TJx5ef63 : u_T := fun k => match k with
  | _ => ("", "", "", false)
def tyJx5ef63 : Nat → FieldType := fun k => match k with
  | _ => .int
theorem nmJx5ef63 : ∀ a, a < 0 → ∀ b, b < 0 → a ≠ b → (TJx5ef63 a).2.1 ≠ (TJx5ef63 b).2.1 := by decide +kernel
theorem tyJx5ef63_ok : ∀ k, k < 0 → parseFieldDescriptor (TJx5ef63 k).2.2.1 = some (tyJx5ef63 k) := by decide +kernel
def RJxbd725 : String := "java/util/List"
def TJxbd725 : u_T := fun k => match k with
  | _ => ("", "", "", false)
def tyJxbd725 : Nat → FieldType := fun k => match k with
  | _ => .int
theorem nmJxbd725 : ∀ a, a < 0 → ∀ b, b < 0 → a ≠ b → (TJxbd725 a).2.1 ≠ (TJxbd725 b).2.1 := by decide +kernel
theorem tyJxbd725_ok : ∀ k, k < 0 → parseFieldDescriptor (TJxbd725 k).2.2.1 = some (tyJxbd725 k) := by decide +kernel
def RJ15 : String := "java/util/Objects"
def TJ15 : u_T := fun k => match k with
  | _ => ("", "", "", false)
def tyJ15 : Nat → FieldType := fun k => match k with
  | _ => .int
theorem nmJ15 : ∀ a, a < 0 → ∀ b, b < 0 → a ≠ b → (TJ15 a).2.1 ≠ (TJ15 b).2.1 := by decide +kernel
theorem tyJ15_ok : ∀ k, k < 0 → parseFieldDescriptor (TJ15 k).2.2.1 = some (tyJ15 k) := by decide +kernel
abbrev cJ15_checkIndex_7cf53 : ByteArray := prog_38_method_17_code
def yJ15_checkIndex_7cf53 : MethodName := ⟨RJ15, "checkIndex", "(II)I"⟩
def RJxf0a74 : String := "java/util/RandomAccess"
def TJxf0a74 : u_T := fun k => match k with
  | _ => ("", "", "", false)
def tyJxf0a74 : Nat → FieldType := fun k => match k with
  | _ => .int
theorem nmJxf0a74 : ∀ a, a < 0 → ∀ b, b < 0 → a ≠ b → (TJxf0a74 a).2.1 ≠ (TJxf0a74 b).2.1 := by decide +kernel
theorem tyJxf0a74_ok : ∀ k, k < 0 → parseFieldDescriptor (TJxf0a74 k).2.2.1 = some (tyJxf0a74 k) := by decide +kernel
def RJxa66e6 : String := "java/util/SequencedCollection"
def TJxa66e6 : u_T := fun k => match k with
  | _ => ("", "", "", false)
def tyJxa66e6 : Nat → FieldType := fun k => match k with
  | _ => .int
theorem nmJxa66e6 : ∀ a, a < 0 → ∀ b, b < 0 → a ≠ b → (TJxa66e6 a).2.1 ≠ (TJxa66e6 b).2.1 := by decide +kernel
theorem tyJxa66e6_ok : ∀ k, k < 0 → parseFieldDescriptor (TJxa66e6 k).2.2.1 = some (tyJxa66e6 k) := by decide +kernel
def RJ8 : String := "jdk/internal/util/ArraysSupport"
def TJ8 : u_T := fun k => match k with
  | _ => ("", "", "", false)
def tyJ8 : Nat → FieldType := fun k => match k with
  | _ => .int
theorem nmJ8 : ∀ a, a < 0 → ∀ b, b < 0 → a ≠ b → (TJ8 a).2.1 ≠ (TJ8 b).2.1 := by decide +kernel
theorem tyJ8_ok : ∀ k, k < 0 → parseFieldDescriptor (TJ8 k).2.2.1 = some (tyJ8 k) := by decide +kernel
abbrev cJ8_newLength_cabcc : ByteArray := prog_41_method_27_code
def yJ8_newLength_cabcc : MethodName := ⟨RJ8, "newLength", "(III)I"⟩
abbrev cJ8_hugeLength_7cf53 : ByteArray := prog_41_method_28_code
def yJ8_hugeLength_7cf53 : MethodName := ⟨RJ8, "hugeLength", "(II)I"⟩
def RJ3 : String := "jdk/internal/util/Preconditions"
def TJ3 : u_T := fun k => match k with
  | _ => ("", "", "", false)
def tyJ3 : Nat → FieldType := fun k => match k with
  | _ => .int
theorem nmJ3 : ∀ a, a < 0 → ∀ b, b < 0 → a ≠ b → (TJ3 a).2.1 ≠ (TJ3 b).2.1 := by decide +kernel
theorem tyJ3_ok : ∀ k, k < 0 → parseFieldDescriptor (TJ3 k).2.2.1 = some (tyJ3 k) := by decide +kernel
abbrev cJ3_checkIndex_8e157 : ByteArray := prog_42_method_11_code
def yJ3_checkIndex_8e157 : MethodName := ⟨RJ3, "checkIndex", "(IILjava/util/function/BiFunction;)I"⟩
def RL : String := "PrereqsLaw"
abbrev cL_cell : ByteArray := method_2_code
def yL_cell : MethodName := ⟨RL, "cell", "([II)I"⟩
abbrev cL_low : ByteArray := method_3_code
def yL_low : MethodName := ⟨RL, "low", "(II)I"⟩
abbrev cL_best : ByteArray := method_4_code
def yL_best : MethodName := ⟨RL, "best", "(LPrereqs;II)I"⟩
abbrev cL_enroll : ByteArray := method_5_code
def yL_enroll : MethodName := ⟨RL, "enroll", "(LPrereqs;II)C"⟩
abbrev cL_moveIn : ByteArray := method_6_code
def yL_moveIn : MethodName := ⟨RL, "moveIn", "(LPrereqs;II)I"⟩
abbrev cL_place : ByteArray := method_7_code
def yL_place : MethodName := ⟨RL, "place", "(LPrereqs;II)I"⟩
abbrev cL_office : ByteArray := method_8_code
def yL_office : MethodName := ⟨RL, "office", "(LPrereqs;[I)LPrereqsLaw$Told;"⟩
abbrev cL_adds : ByteArray := method_9_code
def yL_adds : MethodName := ⟨RL, "adds", "(LPrereqs;LPrereqsLaw$Told;I)I"⟩
abbrev cL_agrees : ByteArray := method_10_code
def yL_agrees : MethodName := ⟨RL, "agrees", "(LPrereqs;LPrereqsLaw$Told;I)Z"⟩
abbrev cL_enrolls : ByteArray := method_11_code
def yL_enrolls : MethodName := ⟨RL, "enrolls", "(LPrereqs;LPrereqsLaw$Told;II)Z"⟩
abbrev cL_drops : ByteArray := method_12_code
def yL_drops : MethodName := ⟨RL, "drops", "(LPrereqs;LPrereqsLaw$Told;II)Z"⟩
abbrev cL_ends : ByteArray := method_13_code
def yL_ends : MethodName := ⟨RL, "ends", "(LPrereqs;LPrereqsLaw$Told;I)Z"⟩
abbrev cL_changes : ByteArray := method_14_code
def yL_changes : MethodName := ⟨RL, "changes", "(LPrereqs;LPrereqsLaw$Told;I)Z"⟩
abbrev cL_law : ByteArray := code
def yL_law : MethodName := ⟨RL, "law", "([I)Z"⟩
abbrev vwCl : List vw_C := [(RJ0, TJ0, 2), (RJx00060, TJx00060, 6), (RJx4a65c, TJx4a65c, 3), (RX0, TX0, 10), (RX1, TX1, 5), (RX2, TX2, 6), (RX3, TX3, 2), (RX5, TX5, 3), (RX6, TX6, 2), (RJ0, TJ0, 2), (RX8, TX8, 7), (RX9, TX9, 2), (RX10, TX10, 2), (RX11, TX11, 12), (RX12, TX12, 9)]
end
section
theorem dX0_init_0 : decode cX0_init 0 = .ok (.aload_n 0, 1) := by decide +kernel
theorem dX0_init_1 : decode cX0_init 1 = .ok (.invokespecial 5, 3) := by decide +kernel
theorem dX0_init_4 : decode cX0_init 4 = .ok (.aload_n 0, 1) := by decide +kernel
theorem dX0_init_5 : decode cX0_init 5 = .ok (.iconst 4, 1) := by decide +kernel
theorem dX0_init_6 : decode cX0_init 6 = .ok (.newarray .int, 2) := by decide +kernel
theorem dX0_init_8 : decode cX0_init 8 = .ok (.putfield 11, 3) := by decide +kernel
theorem dX0_init_11 : decode cX0_init 11 = .ok (.aload_n 0, 1) := by decide +kernel
theorem dX0_init_12 : decode cX0_init 12 = .ok (.iconst 4, 1) := by decide +kernel
theorem dX0_init_13 : decode cX0_init 13 = .ok (.newarray .int, 2) := by decide +kernel
theorem dX0_init_15 : decode cX0_init 15 = .ok (.putfield 15, 3) := by decide +kernel
theorem dX0_init_18 : decode cX0_init 18 = .ok (.aload_n 0, 1) := by decide +kernel
theorem dX0_init_19 : decode cX0_init 19 = .ok (.bipush 20, 2) := by decide +kernel
theorem dX0_init_21 : decode cX0_init 21 = .ok (.newarray .int, 2) := by decide +kernel
theorem dX0_init_23 : decode cX0_init 23 = .ok (.putfield 18, 3) := by decide +kernel
theorem dX0_init_26 : decode cX0_init 26 = .ok (.aload_n 0, 1) := by decide +kernel
theorem dX0_init_27 : decode cX0_init 27 = .ok (.iconst 4, 1) := by decide +kernel
theorem dX0_init_28 : decode cX0_init 28 = .ok (.newarray .int, 2) := by decide +kernel
theorem dX0_init_30 : decode cX0_init 30 = .ok (.putfield 21, 3) := by decide +kernel
theorem dX0_init_33 : decode cX0_init 33 = .ok (.aload_n 0, 1) := by decide +kernel
theorem dX0_init_34 : decode cX0_init 34 = .ok (.iconst 4, 1) := by decide +kernel
theorem dX0_init_35 : decode cX0_init 35 = .ok (.newarray .int, 2) := by decide +kernel
theorem dX0_init_37 : decode cX0_init 37 = .ok (.putfield 24, 3) := by decide +kernel
theorem dX0_init_40 : decode cX0_init 40 = .ok (.aload_n 0, 1) := by decide +kernel
theorem dX0_init_41 : decode cX0_init 41 = .ok (.bipush 20, 2) := by decide +kernel
theorem dX0_init_43 : decode cX0_init 43 = .ok (.newarray .int, 2) := by decide +kernel
theorem dX0_init_45 : decode cX0_init 45 = .ok (.putfield 27, 3) := by decide +kernel
theorem dX0_init_48 : decode cX0_init 48 = .ok (.aload_n 0, 1) := by decide +kernel
theorem dX0_init_49 : decode cX0_init 49 = .ok (.iconst 4, 1) := by decide +kernel
theorem dX0_init_50 : decode cX0_init 50 = .ok (.newarray .int, 2) := by decide +kernel
theorem dX0_init_52 : decode cX0_init 52 = .ok (.putfield 30, 3) := by decide +kernel
theorem dX0_init_55 : decode cX0_init 55 = .ok (.aload_n 0, 1) := by decide +kernel
theorem dX0_init_56 : decode cX0_init 56 = .ok (.iconst 4, 1) := by decide +kernel
theorem dX0_init_57 : decode cX0_init 57 = .ok (.newarray .int, 2) := by decide +kernel
theorem dX0_init_59 : decode cX0_init 59 = .ok (.putfield 33, 3) := by decide +kernel
theorem dX0_init_62 : decode cX0_init 62 = .ok (.aload_n 0, 1) := by decide +kernel
theorem dX0_init_63 : decode cX0_init 63 = .ok (.sipush 256, 3) := by decide +kernel
theorem dX0_init_66 : decode cX0_init 66 = .ok (.newarray .boolean, 2) := by decide +kernel
theorem dX0_init_68 : decode cX0_init 68 = .ok (.putfield 36, 3) := by decide +kernel
theorem dX0_init_71 : decode cX0_init 71 = .ok (.return_, 1) := by decide +kernel
theorem dX0_open_0 : decode cX0_open 0 = .ok (.aload_n 0, 1) := by decide +kernel
theorem dX0_open_1 : decode cX0_open 1 = .ok (.iconst 0, 1) := by decide +kernel
theorem dX0_open_2 : decode cX0_open 2 = .ok (.putfield 40, 3) := by decide +kernel
theorem dX0_open_5 : decode cX0_open 5 = .ok (.aload_n 0, 1) := by decide +kernel
theorem dX0_open_6 : decode cX0_open 6 = .ok (.getfield 18, 3) := by decide +kernel
theorem dX0_open_9 : decode cX0_open 9 = .ok (.iconst 0, 1) := by decide +kernel
theorem dX0_open_10 : decode cX0_open 10 = .ok (.invokestatic 44, 3) := by decide +kernel
theorem dX0_open_13 : decode cX0_open 13 = .ok (.iconst 0, 1) := by decide +kernel
theorem dX0_open_14 : decode cX0_open 14 = .ok (.istore 4, 2) := by decide +kernel
theorem dX0_open_16 : decode cX0_open 16 = .ok (.iload 4, 2) := by decide +kernel
theorem dX0_open_18 : decode cX0_open 18 = .ok (.aload_n 1, 1) := by decide +kernel
theorem dX0_open_19 : decode cX0_open 19 = .ok (.invokevirtual 50, 3) := by decide +kernel
theorem dX0_open_22 : decode cX0_open 22 = .ok (.if_icmp .ge 83, 3) := by decide +kernel
theorem dX0_open_25 : decode cX0_open 25 = .ok (.aload_n 1, 1) := by decide +kernel
theorem dX0_open_26 : decode cX0_open 26 = .ok (.iload 4, 2) := by decide +kernel
theorem dX0_open_28 : decode cX0_open 28 = .ok (.invokevirtual 56, 3) := by decide +kernel
theorem dX0_open_31 : decode cX0_open 31 = .ok (.checkcast 60, 3) := by decide +kernel
theorem dX0_open_34 : decode cX0_open 34 = .ok (.astore 5, 2) := by decide +kernel
theorem dX0_open_36 : decode cX0_open 36 = .ok (.aload 5, 2) := by decide +kernel
theorem dX0_open_38 : decode cX0_open 38 = .ok (.getfield 62, 3) := by decide +kernel
theorem dX0_open_41 : decode cX0_open 41 = .ok (.aload_n 2, 1) := by decide +kernel
theorem dX0_open_42 : decode cX0_open 42 = .ok (.getfield 65, 3) := by decide +kernel
theorem dX0_open_45 : decode cX0_open 45 = .ok (.if_icmp .ne 54, 3) := by decide +kernel
theorem dX0_open_48 : decode cX0_open 48 = .ok (.aload_n 0, 1) := by decide +kernel
theorem dX0_open_49 : decode cX0_open 49 = .ok (.getfield 40, 3) := by decide +kernel
theorem dX0_open_52 : decode cX0_open 52 = .ok (.iconst 4, 1) := by decide +kernel
theorem dX0_open_53 : decode cX0_open 53 = .ok (.if_icmp .ge 46, 3) := by decide +kernel
theorem dX0_open_56 : decode cX0_open 56 = .ok (.aload_n 0, 1) := by decide +kernel
theorem dX0_open_57 : decode cX0_open 57 = .ok (.getfield 11, 3) := by decide +kernel
theorem dX0_open_60 : decode cX0_open 60 = .ok (.aload_n 0, 1) := by decide +kernel
theorem dX0_open_61 : decode cX0_open 61 = .ok (.getfield 40, 3) := by decide +kernel
theorem dX0_open_64 : decode cX0_open 64 = .ok (.iload 4, 2) := by decide +kernel
theorem dX0_open_66 : decode cX0_open 66 = .ok (.iastore, 1) := by decide +kernel
theorem dX0_open_67 : decode cX0_open 67 = .ok (.aload_n 0, 1) := by decide +kernel
theorem dX0_open_68 : decode cX0_open 68 = .ok (.getfield 15, 3) := by decide +kernel
theorem dX0_open_71 : decode cX0_open 71 = .ok (.aload_n 0, 1) := by decide +kernel
theorem dX0_open_72 : decode cX0_open 72 = .ok (.getfield 40, 3) := by decide +kernel
theorem dX0_open_75 : decode cX0_open 75 = .ok (.aload 5, 2) := by decide +kernel
theorem dX0_open_77 : decode cX0_open 77 = .ok (.getfield 68, 3) := by decide +kernel
theorem dX0_open_80 : decode cX0_open 80 = .ok (.iastore, 1) := by decide +kernel
theorem dX0_open_81 : decode cX0_open 81 = .ok (.aload_n 0, 1) := by decide +kernel
theorem dX0_open_82 : decode cX0_open 82 = .ok (.aload 5, 2) := by decide +kernel
theorem dX0_open_84 : decode cX0_open 84 = .ok (.aload_n 2, 1) := by decide +kernel
theorem dX0_open_85 : decode cX0_open 85 = .ok (.iload_n 3, 1) := by decide +kernel
theorem dX0_open_86 : decode cX0_open 86 = .ok (.invokevirtual 71, 3) := by decide +kernel
theorem dX0_open_89 : decode cX0_open 89 = .ok (.aload_n 0, 1) := by decide +kernel
theorem dX0_open_90 : decode cX0_open 90 = .ok (.dup, 1) := by decide +kernel
theorem dX0_open_91 : decode cX0_open 91 = .ok (.getfield 40, 3) := by decide +kernel
theorem dX0_open_94 : decode cX0_open 94 = .ok (.iconst 1, 1) := by decide +kernel
theorem dX0_open_95 : decode cX0_open 95 = .ok (.iadd, 1) := by decide +kernel
theorem dX0_open_96 : decode cX0_open 96 = .ok (.putfield 40, 3) := by decide +kernel
theorem dX0_open_99 : decode cX0_open 99 = .ok (.iinc 4 1, 3) := by decide +kernel
theorem dX0_open_102 : decode cX0_open 102 = .ok (.goto (-86), 3) := by decide +kernel
theorem dX0_open_105 : decode cX0_open 105 = .ok (.return_, 1) := by decide +kernel
theorem dX0_noteFits_0 : decode cX0_noteFits 0 = .ok (.iconst 0, 1) := by decide +kernel
theorem dX0_noteFits_1 : decode cX0_noteFits 1 = .ok (.istore 4, 2) := by decide +kernel
theorem dX0_noteFits_3 : decode cX0_noteFits 3 = .ok (.iload 4, 2) := by decide +kernel
theorem dX0_noteFits_5 : decode cX0_noteFits 5 = .ok (.bipush 20, 2) := by decide +kernel
theorem dX0_noteFits_7 : decode cX0_noteFits 7 = .ok (.if_icmp .ge 79, 3) := by decide +kernel
theorem dX0_noteFits_10 : decode cX0_noteFits 10 = .ok (.iload_n 3, 1) := by decide +kernel
theorem dX0_noteFits_11 : decode cX0_noteFits 11 = .ok (.ifCond .eq 18, 3) := by decide +kernel
theorem dX0_noteFits_14 : decode cX0_noteFits 14 = .ok (.aload_n 2, 1) := by decide +kernel
theorem dX0_noteFits_15 : decode cX0_noteFits 15 = .ok (.getfield 75, 3) := by decide +kernel
theorem dX0_noteFits_18 : decode cX0_noteFits 18 = .ok (.iload 4, 2) := by decide +kernel
theorem dX0_noteFits_20 : decode cX0_noteFits 20 = .ok (.baload, 1) := by decide +kernel
theorem dX0_noteFits_21 : decode cX0_noteFits 21 = .ok (.ifCond .eq 8, 3) := by decide +kernel
theorem dX0_noteFits_24 : decode cX0_noteFits 24 = .ok (.bipush 100, 2) := by decide +kernel
theorem dX0_noteFits_26 : decode cX0_noteFits 26 = .ok (.goto 10, 3) := by decide +kernel
theorem dX0_noteFits_29 : decode cX0_noteFits 29 = .ok (.aload_n 2, 1) := by decide +kernel
theorem dX0_noteFits_30 : decode cX0_noteFits 30 = .ok (.getfield 78, 3) := by decide +kernel
theorem dX0_noteFits_33 : decode cX0_noteFits 33 = .ok (.iload 4, 2) := by decide +kernel
theorem dX0_noteFits_35 : decode cX0_noteFits 35 = .ok (.iaload, 1) := by decide +kernel
theorem dX0_noteFits_36 : decode cX0_noteFits 36 = .ok (.istore 5, 2) := by decide +kernel
theorem dX0_noteFits_38 : decode cX0_noteFits 38 = .ok (.aload_n 1, 1) := by decide +kernel
theorem dX0_noteFits_39 : decode cX0_noteFits 39 = .ok (.getfield 81, 3) := by decide +kernel
theorem dX0_noteFits_42 : decode cX0_noteFits 42 = .ok (.iload 4, 2) := by decide +kernel
theorem dX0_noteFits_44 : decode cX0_noteFits 44 = .ok (.baload, 1) := by decide +kernel
theorem dX0_noteFits_45 : decode cX0_noteFits 45 = .ok (.ifCond .eq 35, 3) := by decide +kernel
theorem dX0_noteFits_48 : decode cX0_noteFits 48 = .ok (.iload 5, 2) := by decide +kernel
theorem dX0_noteFits_50 : decode cX0_noteFits 50 = .ok (.bipush 50, 2) := by decide +kernel
theorem dX0_noteFits_52 : decode cX0_noteFits 52 = .ok (.if_icmp .lt 28, 3) := by decide +kernel
theorem dX0_noteFits_55 : decode cX0_noteFits 55 = .ok (.iload 5, 2) := by decide +kernel
theorem dX0_noteFits_57 : decode cX0_noteFits 57 = .ok (.aload_n 1, 1) := by decide +kernel
theorem dX0_noteFits_58 : decode cX0_noteFits 58 = .ok (.getfield 84, 3) := by decide +kernel
theorem dX0_noteFits_61 : decode cX0_noteFits 61 = .ok (.if_icmp .lt 19, 3) := by decide +kernel
theorem dX0_noteFits_64 : decode cX0_noteFits 64 = .ok (.aload_n 0, 1) := by decide +kernel
theorem dX0_noteFits_65 : decode cX0_noteFits 65 = .ok (.getfield 18, 3) := by decide +kernel
theorem dX0_noteFits_68 : decode cX0_noteFits 68 = .ok (.iload 4, 2) := by decide +kernel
theorem dX0_noteFits_70 : decode cX0_noteFits 70 = .ok (.dup2, 1) := by decide +kernel
theorem dX0_noteFits_71 : decode cX0_noteFits 71 = .ok (.iaload, 1) := by decide +kernel
theorem dX0_noteFits_72 : decode cX0_noteFits 72 = .ok (.iconst 1, 1) := by decide +kernel
theorem dX0_noteFits_73 : decode cX0_noteFits 73 = .ok (.aload_n 0, 1) := by decide +kernel
theorem dX0_noteFits_74 : decode cX0_noteFits 74 = .ok (.getfield 40, 3) := by decide +kernel
theorem dX0_noteFits_77 : decode cX0_noteFits 77 = .ok (.ishl, 1) := by decide +kernel
theorem dX0_noteFits_78 : decode cX0_noteFits 78 = .ok (.ior, 1) := by decide +kernel
theorem dX0_noteFits_79 : decode cX0_noteFits 79 = .ok (.iastore, 1) := by decide +kernel
theorem dX0_noteFits_80 : decode cX0_noteFits 80 = .ok (.iinc 4 1, 3) := by decide +kernel
theorem dX0_noteFits_83 : decode cX0_noteFits 83 = .ok (.goto (-80), 3) := by decide +kernel
theorem dX0_noteFits_86 : decode cX0_noteFits 86 = .ok (.return_, 1) := by decide +kernel
theorem dX0_isFit_0 : decode cX0_isFit 0 = .ok (.aload_n 0, 1) := by decide +kernel
theorem dX0_isFit_1 : decode cX0_isFit 1 = .ok (.getfield 18, 3) := by decide +kernel
theorem dX0_isFit_4 : decode cX0_isFit 4 = .ok (.iload_n 1, 1) := by decide +kernel
theorem dX0_isFit_5 : decode cX0_isFit 5 = .ok (.iaload, 1) := by decide +kernel
theorem dX0_isFit_6 : decode cX0_isFit 6 = .ok (.iload_n 2, 1) := by decide +kernel
theorem dX0_isFit_7 : decode cX0_isFit 7 = .ok (.ishr, 1) := by decide +kernel
theorem dX0_isFit_8 : decode cX0_isFit 8 = .ok (.iconst 1, 1) := by decide +kernel
theorem dX0_isFit_9 : decode cX0_isFit 9 = .ok (.iand, 1) := by decide +kernel
theorem dX0_isFit_10 : decode cX0_isFit 10 = .ok (.ifCond .eq 7, 3) := by decide +kernel
theorem dX0_isFit_13 : decode cX0_isFit 13 = .ok (.iconst 1, 1) := by decide +kernel
theorem dX0_isFit_14 : decode cX0_isFit 14 = .ok (.goto 4, 3) := by decide +kernel
theorem dX0_isFit_17 : decode cX0_isFit 17 = .ok (.iconst 0, 1) := by decide +kernel
theorem dX0_isFit_18 : decode cX0_isFit 18 = .ok (.ireturn, 1) := by decide +kernel
theorem dX0_giveAll_0 : decode cX0_giveAll 0 = .ok (.aload_n 0, 1) := by decide +kernel
theorem dX0_giveAll_1 : decode cX0_giveAll 1 = .ok (.getfield 15, 3) := by decide +kernel
theorem dX0_giveAll_4 : decode cX0_giveAll 4 = .ok (.iconst 0, 1) := by decide +kernel
theorem dX0_giveAll_5 : decode cX0_giveAll 5 = .ok (.aload_n 0, 1) := by decide +kernel
theorem dX0_giveAll_6 : decode cX0_giveAll 6 = .ok (.getfield 21, 3) := by decide +kernel
theorem dX0_giveAll_9 : decode cX0_giveAll 9 = .ok (.iconst 0, 1) := by decide +kernel
theorem dX0_giveAll_10 : decode cX0_giveAll 10 = .ok (.iconst 4, 1) := by decide +kernel
theorem dX0_giveAll_11 : decode cX0_giveAll 11 = .ok (.invokestatic 87, 3) := by decide +kernel
theorem dX0_giveAll_14 : decode cX0_giveAll 14 = .ok (.aload_n 0, 1) := by decide +kernel
theorem dX0_giveAll_15 : decode cX0_giveAll 15 = .ok (.iconst 0, 1) := by decide +kernel
theorem dX0_giveAll_16 : decode cX0_giveAll 16 = .ok (.invokevirtual 93, 3) := by decide +kernel
theorem dX0_giveAll_19 : decode cX0_giveAll 19 = .ok (.ireturn, 1) := by decide +kernel
theorem dX0_giveFrom_0 : decode cX0_giveFrom 0 = .ok (.aload_n 0, 1) := by decide +kernel
theorem dX0_giveFrom_1 : decode cX0_giveFrom 1 = .ok (.getfield 27, 3) := by decide +kernel
theorem dX0_giveFrom_4 : decode cX0_giveFrom 4 = .ok (.iconst (-1), 1) := by decide +kernel
theorem dX0_giveFrom_5 : decode cX0_giveFrom 5 = .ok (.invokestatic 44, 3) := by decide +kernel
theorem dX0_giveFrom_8 : decode cX0_giveFrom 8 = .ok (.aload_n 0, 1) := by decide +kernel
theorem dX0_giveFrom_9 : decode cX0_giveFrom 9 = .ok (.getfield 24, 3) := by decide +kernel
theorem dX0_giveFrom_12 : decode cX0_giveFrom 12 = .ok (.iconst 0, 1) := by decide +kernel
theorem dX0_giveFrom_13 : decode cX0_giveFrom 13 = .ok (.invokestatic 44, 3) := by decide +kernel
theorem dX0_giveFrom_16 : decode cX0_giveFrom 16 = .ok (.iconst 0, 1) := by decide +kernel
theorem dX0_giveFrom_17 : decode cX0_giveFrom 17 = .ok (.istore_n 2, 1) := by decide +kernel
theorem dX0_giveFrom_18 : decode cX0_giveFrom 18 = .ok (.iload_n 1, 1) := by decide +kernel
theorem dX0_giveFrom_19 : decode cX0_giveFrom 19 = .ok (.istore_n 3, 1) := by decide +kernel
theorem dX0_giveFrom_20 : decode cX0_giveFrom 20 = .ok (.iload_n 3, 1) := by decide +kernel
theorem dX0_giveFrom_21 : decode cX0_giveFrom 21 = .ok (.bipush 20, 2) := by decide +kernel
theorem dX0_giveFrom_23 : decode cX0_giveFrom 23 = .ok (.if_icmp .ge 29, 3) := by decide +kernel
theorem dX0_giveFrom_26 : decode cX0_giveFrom 26 = .ok (.aload_n 0, 1) := by decide +kernel
theorem dX0_giveFrom_27 : decode cX0_giveFrom 27 = .ok (.getfield 18, 3) := by decide +kernel
theorem dX0_giveFrom_30 : decode cX0_giveFrom 30 = .ok (.iload_n 3, 1) := by decide +kernel
theorem dX0_giveFrom_31 : decode cX0_giveFrom 31 = .ok (.iaload, 1) := by decide +kernel
theorem dX0_giveFrom_32 : decode cX0_giveFrom 32 = .ok (.ifCond .eq 14, 3) := by decide +kernel
theorem dX0_giveFrom_35 : decode cX0_giveFrom 35 = .ok (.aload_n 0, 1) := by decide +kernel
theorem dX0_giveFrom_36 : decode cX0_giveFrom 36 = .ok (.iload_n 3, 1) := by decide +kernel
theorem dX0_giveFrom_37 : decode cX0_giveFrom 37 = .ok (.invokevirtual 97, 3) := by decide +kernel
theorem dX0_giveFrom_40 : decode cX0_giveFrom 40 = .ok (.ifCond .eq 6, 3) := by decide +kernel
theorem dX0_giveFrom_43 : decode cX0_giveFrom 43 = .ok (.iinc 2 1, 3) := by decide +kernel
theorem dX0_giveFrom_46 : decode cX0_giveFrom 46 = .ok (.iinc 3 1, 3) := by decide +kernel
theorem dX0_giveFrom_49 : decode cX0_giveFrom 49 = .ok (.goto (-29), 3) := by decide +kernel
theorem dX0_giveFrom_52 : decode cX0_giveFrom 52 = .ok (.iload_n 2, 1) := by decide +kernel
theorem dX0_giveFrom_53 : decode cX0_giveFrom 53 = .ok (.ireturn, 1) := by decide +kernel
theorem dX0_give_0 : decode cX0_give 0 = .ok (.aload_n 0, 1) := by decide +kernel
theorem dX0_give_1 : decode cX0_give 1 = .ok (.getfield 33, 3) := by decide +kernel
theorem dX0_give_4 : decode cX0_give 4 = .ok (.iconst (-1), 1) := by decide +kernel
theorem dX0_give_5 : decode cX0_give 5 = .ok (.invokestatic 44, 3) := by decide +kernel
theorem dX0_give_8 : decode cX0_give 8 = .ok (.aload_n 0, 1) := by decide +kernel
theorem dX0_give_9 : decode cX0_give 9 = .ok (.iload_n 1, 1) := by decide +kernel
theorem dX0_give_10 : decode cX0_give 10 = .ok (.iconst 0, 1) := by decide +kernel
theorem dX0_give_11 : decode cX0_give 11 = .ok (.invokevirtual 101, 3) := by decide +kernel
theorem dX0_give_14 : decode cX0_give 14 = .ok (.istore_n 2, 1) := by decide +kernel
theorem dX0_give_15 : decode cX0_give 15 = .ok (.iconst 0, 1) := by decide +kernel
theorem dX0_give_16 : decode cX0_give 16 = .ok (.istore_n 3, 1) := by decide +kernel
theorem dX0_give_17 : decode cX0_give 17 = .ok (.iload_n 3, 1) := by decide +kernel
theorem dX0_give_18 : decode cX0_give 18 = .ok (.aload_n 0, 1) := by decide +kernel
theorem dX0_give_19 : decode cX0_give 19 = .ok (.getfield 40, 3) := by decide +kernel
theorem dX0_give_22 : decode cX0_give 22 = .ok (.if_icmp .ge 83, 3) := by decide +kernel
theorem dX0_give_25 : decode cX0_give 25 = .ok (.iload_n 3, 1) := by decide +kernel
theorem dX0_give_26 : decode cX0_give 26 = .ok (.iload_n 2, 1) := by decide +kernel
theorem dX0_give_27 : decode cX0_give 27 = .ok (.if_icmp .ge 78, 3) := by decide +kernel
theorem dX0_give_30 : decode cX0_give 30 = .ok (.aload_n 0, 1) := by decide +kernel
theorem dX0_give_31 : decode cX0_give 31 = .ok (.getfield 30, 3) := by decide +kernel
theorem dX0_give_34 : decode cX0_give 34 = .ok (.iload_n 3, 1) := by decide +kernel
theorem dX0_give_35 : decode cX0_give 35 = .ok (.iaload, 1) := by decide +kernel
theorem dX0_give_36 : decode cX0_give 36 = .ok (.istore 4, 2) := by decide +kernel
theorem dX0_give_38 : decode cX0_give 38 = .ok (.aload_n 0, 1) := by decide +kernel
theorem dX0_give_39 : decode cX0_give 39 = .ok (.getfield 24, 3) := by decide +kernel
theorem dX0_give_42 : decode cX0_give 42 = .ok (.iload 4, 2) := by decide +kernel
theorem dX0_give_44 : decode cX0_give 44 = .ok (.iaload, 1) := by decide +kernel
theorem dX0_give_45 : decode cX0_give 45 = .ok (.aload_n 0, 1) := by decide +kernel
theorem dX0_give_46 : decode cX0_give 46 = .ok (.getfield 21, 3) := by decide +kernel
theorem dX0_give_49 : decode cX0_give 49 = .ok (.iload 4, 2) := by decide +kernel
theorem dX0_give_51 : decode cX0_give 51 = .ok (.iaload, 1) := by decide +kernel
theorem dX0_give_52 : decode cX0_give 52 = .ok (.if_icmp .ge 11, 3) := by decide +kernel
theorem dX0_give_55 : decode cX0_give 55 = .ok (.aload_n 0, 1) := by decide +kernel
theorem dX0_give_56 : decode cX0_give 56 = .ok (.iload 4, 2) := by decide +kernel
theorem dX0_give_58 : decode cX0_give 58 = .ok (.invokevirtual 105, 3) := by decide +kernel
theorem dX0_give_61 : decode cX0_give 61 = .ok (.iconst 1, 1) := by decide +kernel
theorem dX0_give_62 : decode cX0_give 62 = .ok (.ireturn, 1) := by decide +kernel
theorem dX0_give_63 : decode cX0_give 63 = .ok (.iconst 0, 1) := by decide +kernel
theorem dX0_give_64 : decode cX0_give 64 = .ok (.istore 5, 2) := by decide +kernel
theorem dX0_give_66 : decode cX0_give 66 = .ok (.iload 5, 2) := by decide +kernel
theorem dX0_give_68 : decode cX0_give 68 = .ok (.bipush 20, 2) := by decide +kernel
theorem dX0_give_70 : decode cX0_give 70 = .ok (.if_icmp .ge 29, 3) := by decide +kernel
theorem dX0_give_73 : decode cX0_give 73 = .ok (.aload_n 0, 1) := by decide +kernel
theorem dX0_give_74 : decode cX0_give 74 = .ok (.getfield 27, 3) := by decide +kernel
theorem dX0_give_77 : decode cX0_give 77 = .ok (.iload 5, 2) := by decide +kernel
theorem dX0_give_79 : decode cX0_give 79 = .ok (.iaload, 1) := by decide +kernel
theorem dX0_give_80 : decode cX0_give 80 = .ok (.iload 4, 2) := by decide +kernel
theorem dX0_give_82 : decode cX0_give 82 = .ok (.if_icmp .ne 11, 3) := by decide +kernel
theorem dX0_give_85 : decode cX0_give 85 = .ok (.aload_n 0, 1) := by decide +kernel
theorem dX0_give_86 : decode cX0_give 86 = .ok (.iload 5, 2) := by decide +kernel
theorem dX0_give_88 : decode cX0_give 88 = .ok (.iload_n 2, 1) := by decide +kernel
theorem dX0_give_89 : decode cX0_give 89 = .ok (.invokevirtual 101, 3) := by decide +kernel
theorem dX0_give_92 : decode cX0_give 92 = .ok (.istore_n 2, 1) := by decide +kernel
theorem dX0_give_93 : decode cX0_give 93 = .ok (.iinc 5 1, 3) := by decide +kernel
theorem dX0_give_96 : decode cX0_give 96 = .ok (.goto (-30), 3) := by decide +kernel
theorem dX0_give_99 : decode cX0_give 99 = .ok (.iinc 3 1, 3) := by decide +kernel
theorem dX0_give_102 : decode cX0_give 102 = .ok (.goto (-85), 3) := by decide +kernel
theorem dX0_give_105 : decode cX0_give 105 = .ok (.iconst 0, 1) := by decide +kernel
theorem dX0_give_106 : decode cX0_give 106 = .ok (.ireturn, 1) := by decide +kernel
theorem dX0_findSlotsFor_0 : decode cX0_findSlotsFor 0 = .ok (.iload_n 2, 1) := by decide +kernel
theorem dX0_findSlotsFor_1 : decode cX0_findSlotsFor 1 = .ok (.istore_n 3, 1) := by decide +kernel
theorem dX0_findSlotsFor_2 : decode cX0_findSlotsFor 2 = .ok (.iconst 0, 1) := by decide +kernel
theorem dX0_findSlotsFor_3 : decode cX0_findSlotsFor 3 = .ok (.istore 4, 2) := by decide +kernel
theorem dX0_findSlotsFor_5 : decode cX0_findSlotsFor 5 = .ok (.iload 4, 2) := by decide +kernel
theorem dX0_findSlotsFor_7 : decode cX0_findSlotsFor 7 = .ok (.aload_n 0, 1) := by decide +kernel
theorem dX0_findSlotsFor_8 : decode cX0_findSlotsFor 8 = .ok (.getfield 40, 3) := by decide +kernel
theorem dX0_findSlotsFor_11 : decode cX0_findSlotsFor 11 = .ok (.if_icmp .ge 54, 3) := by decide +kernel
theorem dX0_findSlotsFor_14 : decode cX0_findSlotsFor 14 = .ok (.aload_n 0, 1) := by decide +kernel
theorem dX0_findSlotsFor_15 : decode cX0_findSlotsFor 15 = .ok (.iload_n 1, 1) := by decide +kernel
theorem dX0_findSlotsFor_16 : decode cX0_findSlotsFor 16 = .ok (.iload 4, 2) := by decide +kernel
theorem dX0_findSlotsFor_18 : decode cX0_findSlotsFor 18 = .ok (.invokevirtual 109, 3) := by decide +kernel
theorem dX0_findSlotsFor_21 : decode cX0_findSlotsFor 21 = .ok (.ifCond .eq 38, 3) := by decide +kernel
theorem dX0_findSlotsFor_24 : decode cX0_findSlotsFor 24 = .ok (.aload_n 0, 1) := by decide +kernel
theorem dX0_findSlotsFor_25 : decode cX0_findSlotsFor 25 = .ok (.getfield 33, 3) := by decide +kernel
theorem dX0_findSlotsFor_28 : decode cX0_findSlotsFor 28 = .ok (.iload 4, 2) := by decide +kernel
theorem dX0_findSlotsFor_30 : decode cX0_findSlotsFor 30 = .ok (.iaload, 1) := by decide +kernel
theorem dX0_findSlotsFor_31 : decode cX0_findSlotsFor 31 = .ok (.iconst (-1), 1) := by decide +kernel
theorem dX0_findSlotsFor_32 : decode cX0_findSlotsFor 32 = .ok (.if_icmp .ne 27, 3) := by decide +kernel
theorem dX0_findSlotsFor_35 : decode cX0_findSlotsFor 35 = .ok (.iload_n 3, 1) := by decide +kernel
theorem dX0_findSlotsFor_36 : decode cX0_findSlotsFor 36 = .ok (.iconst 4, 1) := by decide +kernel
theorem dX0_findSlotsFor_37 : decode cX0_findSlotsFor 37 = .ok (.if_icmp .ge 22, 3) := by decide +kernel
theorem dX0_findSlotsFor_40 : decode cX0_findSlotsFor 40 = .ok (.aload_n 0, 1) := by decide +kernel
theorem dX0_findSlotsFor_41 : decode cX0_findSlotsFor 41 = .ok (.getfield 33, 3) := by decide +kernel
theorem dX0_findSlotsFor_44 : decode cX0_findSlotsFor 44 = .ok (.iload 4, 2) := by decide +kernel
theorem dX0_findSlotsFor_46 : decode cX0_findSlotsFor 46 = .ok (.iload_n 1, 1) := by decide +kernel
theorem dX0_findSlotsFor_47 : decode cX0_findSlotsFor 47 = .ok (.iastore, 1) := by decide +kernel
theorem dX0_findSlotsFor_48 : decode cX0_findSlotsFor 48 = .ok (.aload_n 0, 1) := by decide +kernel
theorem dX0_findSlotsFor_49 : decode cX0_findSlotsFor 49 = .ok (.getfield 30, 3) := by decide +kernel
theorem dX0_findSlotsFor_52 : decode cX0_findSlotsFor 52 = .ok (.iload_n 3, 1) := by decide +kernel
theorem dX0_findSlotsFor_53 : decode cX0_findSlotsFor 53 = .ok (.iload 4, 2) := by decide +kernel
theorem dX0_findSlotsFor_55 : decode cX0_findSlotsFor 55 = .ok (.iastore, 1) := by decide +kernel
theorem dX0_findSlotsFor_56 : decode cX0_findSlotsFor 56 = .ok (.iinc 3 1, 3) := by decide +kernel
theorem dX0_findSlotsFor_59 : decode cX0_findSlotsFor 59 = .ok (.iinc 4 1, 3) := by decide +kernel
theorem dX0_findSlotsFor_62 : decode cX0_findSlotsFor 62 = .ok (.goto (-57), 3) := by decide +kernel
theorem dX0_findSlotsFor_65 : decode cX0_findSlotsFor 65 = .ok (.iload_n 3, 1) := by decide +kernel
theorem dX0_findSlotsFor_66 : decode cX0_findSlotsFor 66 = .ok (.ireturn, 1) := by decide +kernel
theorem dX0_handOn_0 : decode cX0_handOn 0 = .ok (.aload_n 0, 1) := by decide +kernel
theorem dX0_handOn_1 : decode cX0_handOn 1 = .ok (.getfield 24, 3) := by decide +kernel
theorem dX0_handOn_4 : decode cX0_handOn 4 = .ok (.iload_n 1, 1) := by decide +kernel
theorem dX0_handOn_5 : decode cX0_handOn 5 = .ok (.dup2, 1) := by decide +kernel
theorem dX0_handOn_6 : decode cX0_handOn 6 = .ok (.iaload, 1) := by decide +kernel
theorem dX0_handOn_7 : decode cX0_handOn 7 = .ok (.iconst 1, 1) := by decide +kernel
theorem dX0_handOn_8 : decode cX0_handOn 8 = .ok (.iadd, 1) := by decide +kernel
theorem dX0_handOn_9 : decode cX0_handOn 9 = .ok (.iastore, 1) := by decide +kernel
theorem dX0_handOn_10 : decode cX0_handOn 10 = .ok (.iload_n 1, 1) := by decide +kernel
theorem dX0_handOn_11 : decode cX0_handOn 11 = .ok (.istore_n 2, 1) := by decide +kernel
theorem dX0_handOn_12 : decode cX0_handOn 12 = .ok (.iconst 0, 1) := by decide +kernel
theorem dX0_handOn_13 : decode cX0_handOn 13 = .ok (.istore_n 3, 1) := by decide +kernel
theorem dX0_handOn_14 : decode cX0_handOn 14 = .ok (.iload_n 3, 1) := by decide +kernel
theorem dX0_handOn_15 : decode cX0_handOn 15 = .ok (.aload_n 0, 1) := by decide +kernel
theorem dX0_handOn_16 : decode cX0_handOn 16 = .ok (.getfield 40, 3) := by decide +kernel
theorem dX0_handOn_19 : decode cX0_handOn 19 = .ok (.if_icmp .ge 42, 3) := by decide +kernel
theorem dX0_handOn_22 : decode cX0_handOn 22 = .ok (.iload_n 2, 1) := by decide +kernel
theorem dX0_handOn_23 : decode cX0_handOn 23 = .ok (.iconst (-1), 1) := by decide +kernel
theorem dX0_handOn_24 : decode cX0_handOn 24 = .ok (.if_icmp .eq 37, 3) := by decide +kernel
theorem dX0_handOn_27 : decode cX0_handOn 27 = .ok (.aload_n 0, 1) := by decide +kernel
theorem dX0_handOn_28 : decode cX0_handOn 28 = .ok (.getfield 33, 3) := by decide +kernel
theorem dX0_handOn_31 : decode cX0_handOn 31 = .ok (.iload_n 2, 1) := by decide +kernel
theorem dX0_handOn_32 : decode cX0_handOn 32 = .ok (.iaload, 1) := by decide +kernel
theorem dX0_handOn_33 : decode cX0_handOn 33 = .ok (.istore 4, 2) := by decide +kernel
theorem dX0_handOn_35 : decode cX0_handOn 35 = .ok (.aload_n 0, 1) := by decide +kernel
theorem dX0_handOn_36 : decode cX0_handOn 36 = .ok (.getfield 27, 3) := by decide +kernel
theorem dX0_handOn_39 : decode cX0_handOn 39 = .ok (.iload 4, 2) := by decide +kernel
theorem dX0_handOn_41 : decode cX0_handOn 41 = .ok (.iaload, 1) := by decide +kernel
theorem dX0_handOn_42 : decode cX0_handOn 42 = .ok (.istore 5, 2) := by decide +kernel
theorem dX0_handOn_44 : decode cX0_handOn 44 = .ok (.aload_n 0, 1) := by decide +kernel
theorem dX0_handOn_45 : decode cX0_handOn 45 = .ok (.getfield 27, 3) := by decide +kernel
theorem dX0_handOn_48 : decode cX0_handOn 48 = .ok (.iload 4, 2) := by decide +kernel
theorem dX0_handOn_50 : decode cX0_handOn 50 = .ok (.iload_n 2, 1) := by decide +kernel
theorem dX0_handOn_51 : decode cX0_handOn 51 = .ok (.iastore, 1) := by decide +kernel
theorem dX0_handOn_52 : decode cX0_handOn 52 = .ok (.iload 5, 2) := by decide +kernel
theorem dX0_handOn_54 : decode cX0_handOn 54 = .ok (.istore_n 2, 1) := by decide +kernel
theorem dX0_handOn_55 : decode cX0_handOn 55 = .ok (.iinc 3 1, 3) := by decide +kernel
theorem dX0_handOn_58 : decode cX0_handOn 58 = .ok (.goto (-44), 3) := by decide +kernel
theorem dX0_handOn_61 : decode cX0_handOn 61 = .ok (.return_, 1) := by decide +kernel
theorem dX0_shortRules_0 : decode cX0_shortRules 0 = .ok (.iconst 0, 1) := by decide +kernel
theorem dX0_shortRules_1 : decode cX0_shortRules 1 = .ok (.istore_n 1, 1) := by decide +kernel
theorem dX0_shortRules_2 : decode cX0_shortRules 2 = .ok (.iconst 0, 1) := by decide +kernel
theorem dX0_shortRules_3 : decode cX0_shortRules 3 = .ok (.istore_n 2, 1) := by decide +kernel
theorem dX0_shortRules_4 : decode cX0_shortRules 4 = .ok (.iload_n 2, 1) := by decide +kernel
theorem dX0_shortRules_5 : decode cX0_shortRules 5 = .ok (.aload_n 0, 1) := by decide +kernel
theorem dX0_shortRules_6 : decode cX0_shortRules 6 = .ok (.getfield 40, 3) := by decide +kernel
theorem dX0_shortRules_9 : decode cX0_shortRules 9 = .ok (.if_icmp .ge 30, 3) := by decide +kernel
theorem dX0_shortRules_12 : decode cX0_shortRules 12 = .ok (.aload_n 0, 1) := by decide +kernel
theorem dX0_shortRules_13 : decode cX0_shortRules 13 = .ok (.getfield 24, 3) := by decide +kernel
theorem dX0_shortRules_16 : decode cX0_shortRules 16 = .ok (.iload_n 2, 1) := by decide +kernel
theorem dX0_shortRules_17 : decode cX0_shortRules 17 = .ok (.iaload, 1) := by decide +kernel
theorem dX0_shortRules_18 : decode cX0_shortRules 18 = .ok (.aload_n 0, 1) := by decide +kernel
theorem dX0_shortRules_19 : decode cX0_shortRules 19 = .ok (.getfield 15, 3) := by decide +kernel
theorem dX0_shortRules_22 : decode cX0_shortRules 22 = .ok (.iload_n 2, 1) := by decide +kernel
theorem dX0_shortRules_23 : decode cX0_shortRules 23 = .ok (.iaload, 1) := by decide +kernel
theorem dX0_shortRules_24 : decode cX0_shortRules 24 = .ok (.if_icmp .ge 9, 3) := by decide +kernel
theorem dX0_shortRules_27 : decode cX0_shortRules 27 = .ok (.iload_n 1, 1) := by decide +kernel
theorem dX0_shortRules_28 : decode cX0_shortRules 28 = .ok (.iconst 1, 1) := by decide +kernel
theorem dX0_shortRules_29 : decode cX0_shortRules 29 = .ok (.iload_n 2, 1) := by decide +kernel
theorem dX0_shortRules_30 : decode cX0_shortRules 30 = .ok (.ishl, 1) := by decide +kernel
theorem dX0_shortRules_31 : decode cX0_shortRules 31 = .ok (.ior, 1) := by decide +kernel
theorem dX0_shortRules_32 : decode cX0_shortRules 32 = .ok (.istore_n 1, 1) := by decide +kernel
theorem dX0_shortRules_33 : decode cX0_shortRules 33 = .ok (.iinc 2 1, 3) := by decide +kernel
theorem dX0_shortRules_36 : decode cX0_shortRules 36 = .ok (.goto (-32), 3) := by decide +kernel
theorem dX0_shortRules_39 : decode cX0_shortRules 39 = .ok (.iconst 0, 1) := by decide +kernel
theorem dX0_shortRules_40 : decode cX0_shortRules 40 = .ok (.istore_n 2, 1) := by decide +kernel
theorem dX0_shortRules_41 : decode cX0_shortRules 41 = .ok (.iload_n 2, 1) := by decide +kernel
theorem dX0_shortRules_42 : decode cX0_shortRules 42 = .ok (.aload_n 0, 1) := by decide +kernel
theorem dX0_shortRules_43 : decode cX0_shortRules 43 = .ok (.getfield 40, 3) := by decide +kernel
theorem dX0_shortRules_46 : decode cX0_shortRules 46 = .ok (.if_icmp .ge 55, 3) := by decide +kernel
theorem dX0_shortRules_49 : decode cX0_shortRules 49 = .ok (.iconst 0, 1) := by decide +kernel
theorem dX0_shortRules_50 : decode cX0_shortRules 50 = .ok (.istore_n 3, 1) := by decide +kernel
theorem dX0_shortRules_51 : decode cX0_shortRules 51 = .ok (.iload_n 3, 1) := by decide +kernel
theorem dX0_shortRules_52 : decode cX0_shortRules 52 = .ok (.bipush 20, 2) := by decide +kernel
theorem dX0_shortRules_54 : decode cX0_shortRules 54 = .ok (.if_icmp .ge 41, 3) := by decide +kernel
theorem dX0_shortRules_57 : decode cX0_shortRules 57 = .ok (.aload_n 0, 1) := by decide +kernel
theorem dX0_shortRules_58 : decode cX0_shortRules 58 = .ok (.getfield 27, 3) := by decide +kernel
theorem dX0_shortRules_61 : decode cX0_shortRules 61 = .ok (.iload_n 3, 1) := by decide +kernel
theorem dX0_shortRules_62 : decode cX0_shortRules 62 = .ok (.iaload, 1) := by decide +kernel
theorem dX0_shortRules_63 : decode cX0_shortRules 63 = .ok (.iconst (-1), 1) := by decide +kernel
theorem dX0_shortRules_64 : decode cX0_shortRules 64 = .ok (.if_icmp .eq 25, 3) := by decide +kernel
theorem dX0_shortRules_67 : decode cX0_shortRules 67 = .ok (.aload_n 0, 1) := by decide +kernel
theorem dX0_shortRules_68 : decode cX0_shortRules 68 = .ok (.getfield 18, 3) := by decide +kernel
theorem dX0_shortRules_71 : decode cX0_shortRules 71 = .ok (.iload_n 3, 1) := by decide +kernel
theorem dX0_shortRules_72 : decode cX0_shortRules 72 = .ok (.iaload, 1) := by decide +kernel
theorem dX0_shortRules_73 : decode cX0_shortRules 73 = .ok (.iload_n 1, 1) := by decide +kernel
theorem dX0_shortRules_74 : decode cX0_shortRules 74 = .ok (.iand, 1) := by decide +kernel
theorem dX0_shortRules_75 : decode cX0_shortRules 75 = .ok (.ifCond .eq 14, 3) := by decide +kernel
theorem dX0_shortRules_78 : decode cX0_shortRules 78 = .ok (.iload_n 1, 1) := by decide +kernel
theorem dX0_shortRules_79 : decode cX0_shortRules 79 = .ok (.iconst 1, 1) := by decide +kernel
theorem dX0_shortRules_80 : decode cX0_shortRules 80 = .ok (.aload_n 0, 1) := by decide +kernel
theorem dX0_shortRules_81 : decode cX0_shortRules 81 = .ok (.getfield 27, 3) := by decide +kernel
theorem dX0_shortRules_84 : decode cX0_shortRules 84 = .ok (.iload_n 3, 1) := by decide +kernel
theorem dX0_shortRules_85 : decode cX0_shortRules 85 = .ok (.iaload, 1) := by decide +kernel
theorem dX0_shortRules_86 : decode cX0_shortRules 86 = .ok (.ishl, 1) := by decide +kernel
theorem dX0_shortRules_87 : decode cX0_shortRules 87 = .ok (.ior, 1) := by decide +kernel
theorem dX0_shortRules_88 : decode cX0_shortRules 88 = .ok (.istore_n 1, 1) := by decide +kernel
theorem dX0_shortRules_89 : decode cX0_shortRules 89 = .ok (.iinc 3 1, 3) := by decide +kernel
theorem dX0_shortRules_92 : decode cX0_shortRules 92 = .ok (.goto (-41), 3) := by decide +kernel
theorem dX0_shortRules_95 : decode cX0_shortRules 95 = .ok (.iinc 2 1, 3) := by decide +kernel
theorem dX0_shortRules_98 : decode cX0_shortRules 98 = .ok (.goto (-57), 3) := by decide +kernel
theorem dX0_shortRules_101 : decode cX0_shortRules 101 = .ok (.aload_n 0, 1) := by decide +kernel
theorem dX0_shortRules_102 : decode cX0_shortRules 102 = .ok (.iload_n 1, 1) := by decide +kernel
theorem dX0_shortRules_103 : decode cX0_shortRules 103 = .ok (.invokevirtual 113, 3) := by decide +kernel
theorem dX0_shortRules_106 : decode cX0_shortRules 106 = .ok (.ireturn, 1) := by decide +kernel
theorem dX0_ruleBits_0 : decode cX0_ruleBits 0 = .ok (.iconst 0, 1) := by decide +kernel
theorem dX0_ruleBits_1 : decode cX0_ruleBits 1 = .ok (.istore_n 2, 1) := by decide +kernel
theorem dX0_ruleBits_2 : decode cX0_ruleBits 2 = .ok (.iconst 0, 1) := by decide +kernel
theorem dX0_ruleBits_3 : decode cX0_ruleBits 3 = .ok (.istore_n 3, 1) := by decide +kernel
theorem dX0_ruleBits_4 : decode cX0_ruleBits 4 = .ok (.iload_n 3, 1) := by decide +kernel
theorem dX0_ruleBits_5 : decode cX0_ruleBits 5 = .ok (.aload_n 0, 1) := by decide +kernel
theorem dX0_ruleBits_6 : decode cX0_ruleBits 6 = .ok (.getfield 40, 3) := by decide +kernel
theorem dX0_ruleBits_9 : decode cX0_ruleBits 9 = .ok (.if_icmp .ge 28, 3) := by decide +kernel
theorem dX0_ruleBits_12 : decode cX0_ruleBits 12 = .ok (.iload_n 1, 1) := by decide +kernel
theorem dX0_ruleBits_13 : decode cX0_ruleBits 13 = .ok (.iload_n 3, 1) := by decide +kernel
theorem dX0_ruleBits_14 : decode cX0_ruleBits 14 = .ok (.ishr, 1) := by decide +kernel
theorem dX0_ruleBits_15 : decode cX0_ruleBits 15 = .ok (.iconst 1, 1) := by decide +kernel
theorem dX0_ruleBits_16 : decode cX0_ruleBits 16 = .ok (.iand, 1) := by decide +kernel
theorem dX0_ruleBits_17 : decode cX0_ruleBits 17 = .ok (.ifCond .eq 14, 3) := by decide +kernel
theorem dX0_ruleBits_20 : decode cX0_ruleBits 20 = .ok (.iload_n 2, 1) := by decide +kernel
theorem dX0_ruleBits_21 : decode cX0_ruleBits 21 = .ok (.iconst 1, 1) := by decide +kernel
theorem dX0_ruleBits_22 : decode cX0_ruleBits 22 = .ok (.aload_n 0, 1) := by decide +kernel
theorem dX0_ruleBits_23 : decode cX0_ruleBits 23 = .ok (.getfield 11, 3) := by decide +kernel
theorem dX0_ruleBits_26 : decode cX0_ruleBits 26 = .ok (.iload_n 3, 1) := by decide +kernel
theorem dX0_ruleBits_27 : decode cX0_ruleBits 27 = .ok (.iaload, 1) := by decide +kernel
theorem dX0_ruleBits_28 : decode cX0_ruleBits 28 = .ok (.ishl, 1) := by decide +kernel
theorem dX0_ruleBits_29 : decode cX0_ruleBits 29 = .ok (.ior, 1) := by decide +kernel
theorem dX0_ruleBits_30 : decode cX0_ruleBits 30 = .ok (.istore_n 2, 1) := by decide +kernel
theorem dX0_ruleBits_31 : decode cX0_ruleBits 31 = .ok (.iinc 3 1, 3) := by decide +kernel
theorem dX0_ruleBits_34 : decode cX0_ruleBits 34 = .ok (.goto (-30), 3) := by decide +kernel
theorem dX0_ruleBits_37 : decode cX0_ruleBits 37 = .ok (.iload_n 2, 1) := by decide +kernel
theorem dX0_ruleBits_38 : decode cX0_ruleBits 38 = .ok (.ireturn, 1) := by decide +kernel
theorem dX0_tryAll_0 : decode cX0_tryAll 0 = .ok (.aload_n 0, 1) := by decide +kernel
theorem dX0_tryAll_1 : decode cX0_tryAll 1 = .ok (.getfield 36, 3) := by decide +kernel
theorem dX0_tryAll_4 : decode cX0_tryAll 4 = .ok (.iconst 0, 1) := by decide +kernel
theorem dX0_tryAll_5 : decode cX0_tryAll 5 = .ok (.iconst 1, 1) := by decide +kernel
theorem dX0_tryAll_6 : decode cX0_tryAll 6 = .ok (.bastore, 1) := by decide +kernel
theorem dX0_tryAll_7 : decode cX0_tryAll 7 = .ok (.iconst 1, 1) := by decide +kernel
theorem dX0_tryAll_8 : decode cX0_tryAll 8 = .ok (.istore_n 1, 1) := by decide +kernel
theorem dX0_tryAll_9 : decode cX0_tryAll 9 = .ok (.iload_n 1, 1) := by decide +kernel
theorem dX0_tryAll_10 : decode cX0_tryAll 10 = .ok (.aload_n 0, 1) := by decide +kernel
theorem dX0_tryAll_11 : decode cX0_tryAll 11 = .ok (.invokevirtual 116, 3) := by decide +kernel
theorem dX0_tryAll_14 : decode cX0_tryAll 14 = .ok (.if_icmp .ge 16, 3) := by decide +kernel
theorem dX0_tryAll_17 : decode cX0_tryAll 17 = .ok (.aload_n 0, 1) := by decide +kernel
theorem dX0_tryAll_18 : decode cX0_tryAll 18 = .ok (.getfield 36, 3) := by decide +kernel
theorem dX0_tryAll_21 : decode cX0_tryAll 21 = .ok (.iload_n 1, 1) := by decide +kernel
theorem dX0_tryAll_22 : decode cX0_tryAll 22 = .ok (.iconst 0, 1) := by decide +kernel
theorem dX0_tryAll_23 : decode cX0_tryAll 23 = .ok (.bastore, 1) := by decide +kernel
theorem dX0_tryAll_24 : decode cX0_tryAll 24 = .ok (.iinc 1 1, 3) := by decide +kernel
theorem dX0_tryAll_27 : decode cX0_tryAll 27 = .ok (.goto (-18), 3) := by decide +kernel
theorem dX0_tryAll_30 : decode cX0_tryAll 30 = .ok (.iconst 0, 1) := by decide +kernel
theorem dX0_tryAll_31 : decode cX0_tryAll 31 = .ok (.istore_n 1, 1) := by decide +kernel
theorem dX0_tryAll_32 : decode cX0_tryAll 32 = .ok (.iload_n 1, 1) := by decide +kernel
theorem dX0_tryAll_33 : decode cX0_tryAll 33 = .ok (.bipush 20, 2) := by decide +kernel
theorem dX0_tryAll_35 : decode cX0_tryAll 35 = .ok (.if_icmp .ge 23, 3) := by decide +kernel
theorem dX0_tryAll_38 : decode cX0_tryAll 38 = .ok (.aload_n 0, 1) := by decide +kernel
theorem dX0_tryAll_39 : decode cX0_tryAll 39 = .ok (.getfield 18, 3) := by decide +kernel
theorem dX0_tryAll_42 : decode cX0_tryAll 42 = .ok (.iload_n 1, 1) := by decide +kernel
theorem dX0_tryAll_43 : decode cX0_tryAll 43 = .ok (.iaload, 1) := by decide +kernel
theorem dX0_tryAll_44 : decode cX0_tryAll 44 = .ok (.ifCond .eq 8, 3) := by decide +kernel
theorem dX0_tryAll_47 : decode cX0_tryAll 47 = .ok (.aload_n 0, 1) := by decide +kernel
theorem dX0_tryAll_48 : decode cX0_tryAll 48 = .ok (.iload_n 1, 1) := by decide +kernel
theorem dX0_tryAll_49 : decode cX0_tryAll 49 = .ok (.invokevirtual 119, 3) := by decide +kernel
theorem dX0_tryAll_52 : decode cX0_tryAll 52 = .ok (.iinc 1 1, 3) := by decide +kernel
theorem dX0_tryAll_55 : decode cX0_tryAll 55 = .ok (.goto (-23), 3) := by decide +kernel
theorem dX0_tryAll_58 : decode cX0_tryAll 58 = .ok (.aload_n 0, 1) := by decide +kernel
theorem dX0_tryAll_59 : decode cX0_tryAll 59 = .ok (.iconst (-1), 1) := by decide +kernel
theorem dX0_tryAll_60 : decode cX0_tryAll 60 = .ok (.invokevirtual 122, 3) := by decide +kernel
theorem dX0_tryAll_63 : decode cX0_tryAll 63 = .ok (.ireturn, 1) := by decide +kernel
theorem dX0_trials_0 : decode cX0_trials 0 = .ok (.iconst 1, 1) := by decide +kernel
theorem dX0_trials_1 : decode cX0_trials 1 = .ok (.iconst 2, 1) := by decide +kernel
theorem dX0_trials_2 : decode cX0_trials 2 = .ok (.aload_n 0, 1) := by decide +kernel
theorem dX0_trials_3 : decode cX0_trials 3 = .ok (.getfield 40, 3) := by decide +kernel
theorem dX0_trials_6 : decode cX0_trials 6 = .ok (.imul, 1) := by decide +kernel
theorem dX0_trials_7 : decode cX0_trials 7 = .ok (.ishl, 1) := by decide +kernel
theorem dX0_trials_8 : decode cX0_trials 8 = .ok (.ireturn, 1) := by decide +kernel
theorem dX0_tryCourse_0 : decode cX0_tryCourse 0 = .ok (.aload_n 0, 1) := by decide +kernel
theorem dX0_tryCourse_1 : decode cX0_tryCourse 1 = .ok (.invokevirtual 116, 3) := by decide +kernel
theorem dX0_tryCourse_4 : decode cX0_tryCourse 4 = .ok (.iconst 1, 1) := by decide +kernel
theorem dX0_tryCourse_5 : decode cX0_tryCourse 5 = .ok (.isub, 1) := by decide +kernel
theorem dX0_tryCourse_6 : decode cX0_tryCourse 6 = .ok (.istore_n 2, 1) := by decide +kernel
theorem dX0_tryCourse_7 : decode cX0_tryCourse 7 = .ok (.iload_n 2, 1) := by decide +kernel
theorem dX0_tryCourse_8 : decode cX0_tryCourse 8 = .ok (.ifCond .lt 70, 3) := by decide +kernel
theorem dX0_tryCourse_11 : decode cX0_tryCourse 11 = .ok (.iconst 0, 1) := by decide +kernel
theorem dX0_tryCourse_12 : decode cX0_tryCourse 12 = .ok (.istore_n 3, 1) := by decide +kernel
theorem dX0_tryCourse_13 : decode cX0_tryCourse 13 = .ok (.iload_n 3, 1) := by decide +kernel
theorem dX0_tryCourse_14 : decode cX0_tryCourse 14 = .ok (.aload_n 0, 1) := by decide +kernel
theorem dX0_tryCourse_15 : decode cX0_tryCourse 15 = .ok (.getfield 40, 3) := by decide +kernel
theorem dX0_tryCourse_18 : decode cX0_tryCourse 18 = .ok (.if_icmp .ge 54, 3) := by decide +kernel
theorem dX0_tryCourse_21 : decode cX0_tryCourse 21 = .ok (.aload_n 0, 1) := by decide +kernel
theorem dX0_tryCourse_22 : decode cX0_tryCourse 22 = .ok (.getfield 36, 3) := by decide +kernel
theorem dX0_tryCourse_25 : decode cX0_tryCourse 25 = .ok (.iload_n 2, 1) := by decide +kernel
theorem dX0_tryCourse_26 : decode cX0_tryCourse 26 = .ok (.baload, 1) := by decide +kernel
theorem dX0_tryCourse_27 : decode cX0_tryCourse 27 = .ok (.ifCond .eq 45, 3) := by decide +kernel
theorem dX0_tryCourse_30 : decode cX0_tryCourse 30 = .ok (.aload_n 0, 1) := by decide +kernel
theorem dX0_tryCourse_31 : decode cX0_tryCourse 31 = .ok (.iload_n 1, 1) := by decide +kernel
theorem dX0_tryCourse_32 : decode cX0_tryCourse 32 = .ok (.iload_n 3, 1) := by decide +kernel
theorem dX0_tryCourse_33 : decode cX0_tryCourse 33 = .ok (.invokevirtual 109, 3) := by decide +kernel
theorem dX0_tryCourse_36 : decode cX0_tryCourse 36 = .ok (.ifCond .eq 30, 3) := by decide +kernel
theorem dX0_tryCourse_39 : decode cX0_tryCourse 39 = .ok (.iload_n 2, 1) := by decide +kernel
theorem dX0_tryCourse_40 : decode cX0_tryCourse 40 = .ok (.iload_n 3, 1) := by decide +kernel
theorem dX0_tryCourse_41 : decode cX0_tryCourse 41 = .ok (.invokestatic 125, 3) := by decide +kernel
theorem dX0_tryCourse_44 : decode cX0_tryCourse 44 = .ok (.aload_n 0, 1) := by decide +kernel
theorem dX0_tryCourse_45 : decode cX0_tryCourse 45 = .ok (.getfield 15, 3) := by decide +kernel
theorem dX0_tryCourse_48 : decode cX0_tryCourse 48 = .ok (.iload_n 3, 1) := by decide +kernel
theorem dX0_tryCourse_49 : decode cX0_tryCourse 49 = .ok (.iaload, 1) := by decide +kernel
theorem dX0_tryCourse_50 : decode cX0_tryCourse 50 = .ok (.if_icmp .ge 16, 3) := by decide +kernel
theorem dX0_tryCourse_53 : decode cX0_tryCourse 53 = .ok (.aload_n 0, 1) := by decide +kernel
theorem dX0_tryCourse_54 : decode cX0_tryCourse 54 = .ok (.getfield 36, 3) := by decide +kernel
theorem dX0_tryCourse_57 : decode cX0_tryCourse 57 = .ok (.iload_n 2, 1) := by decide +kernel
theorem dX0_tryCourse_58 : decode cX0_tryCourse 58 = .ok (.iconst 1, 1) := by decide +kernel
theorem dX0_tryCourse_59 : decode cX0_tryCourse 59 = .ok (.iconst 2, 1) := by decide +kernel
theorem dX0_tryCourse_60 : decode cX0_tryCourse 60 = .ok (.iload_n 3, 1) := by decide +kernel
theorem dX0_tryCourse_61 : decode cX0_tryCourse 61 = .ok (.imul, 1) := by decide +kernel
theorem dX0_tryCourse_62 : decode cX0_tryCourse 62 = .ok (.ishl, 1) := by decide +kernel
theorem dX0_tryCourse_63 : decode cX0_tryCourse 63 = .ok (.iadd, 1) := by decide +kernel
theorem dX0_tryCourse_64 : decode cX0_tryCourse 64 = .ok (.iconst 1, 1) := by decide +kernel
theorem dX0_tryCourse_65 : decode cX0_tryCourse 65 = .ok (.bastore, 1) := by decide +kernel
theorem dX0_tryCourse_66 : decode cX0_tryCourse 66 = .ok (.iinc 3 1, 3) := by decide +kernel
theorem dX0_tryCourse_69 : decode cX0_tryCourse 69 = .ok (.goto (-56), 3) := by decide +kernel
theorem dX0_tryCourse_72 : decode cX0_tryCourse 72 = .ok (.iinc 2 (-1), 3) := by decide +kernel
theorem dX0_tryCourse_75 : decode cX0_tryCourse 75 = .ok (.goto (-68), 3) := by decide +kernel
theorem dX0_tryCourse_78 : decode cX0_tryCourse 78 = .ok (.return_, 1) := by decide +kernel
theorem dX0_countIn_0 : decode cX0_countIn 0 = .ok (.iload_n 0, 1) := by decide +kernel
theorem dX0_countIn_1 : decode cX0_countIn 1 = .ok (.iconst 2, 1) := by decide +kernel
theorem dX0_countIn_2 : decode cX0_countIn 2 = .ok (.iload_n 1, 1) := by decide +kernel
theorem dX0_countIn_3 : decode cX0_countIn 3 = .ok (.imul, 1) := by decide +kernel
theorem dX0_countIn_4 : decode cX0_countIn 4 = .ok (.ishr, 1) := by decide +kernel
theorem dX0_countIn_5 : decode cX0_countIn 5 = .ok (.iconst 3, 1) := by decide +kernel
theorem dX0_countIn_6 : decode cX0_countIn 6 = .ok (.iand, 1) := by decide +kernel
theorem dX0_countIn_7 : decode cX0_countIn 7 = .ok (.ireturn, 1) := by decide +kernel
theorem dX0_mostTried_0 : decode cX0_mostTried 0 = .ok (.iconst 0, 1) := by decide +kernel
theorem dX0_mostTried_1 : decode cX0_mostTried 1 = .ok (.istore_n 2, 1) := by decide +kernel
theorem dX0_mostTried_2 : decode cX0_mostTried 2 = .ok (.iconst 0, 1) := by decide +kernel
theorem dX0_mostTried_3 : decode cX0_mostTried 3 = .ok (.istore_n 3, 1) := by decide +kernel
theorem dX0_mostTried_4 : decode cX0_mostTried 4 = .ok (.iload_n 3, 1) := by decide +kernel
theorem dX0_mostTried_5 : decode cX0_mostTried 5 = .ok (.aload_n 0, 1) := by decide +kernel
theorem dX0_mostTried_6 : decode cX0_mostTried 6 = .ok (.invokevirtual 116, 3) := by decide +kernel
theorem dX0_mostTried_9 : decode cX0_mostTried 9 = .ok (.if_icmp .ge 59, 3) := by decide +kernel
theorem dX0_mostTried_12 : decode cX0_mostTried 12 = .ok (.iload_n 1, 1) := by decide +kernel
theorem dX0_mostTried_13 : decode cX0_mostTried 13 = .ok (.iconst (-1), 1) := by decide +kernel
theorem dX0_mostTried_14 : decode cX0_mostTried 14 = .ok (.if_icmp .eq 17, 3) := by decide +kernel
theorem dX0_mostTried_17 : decode cX0_mostTried 17 = .ok (.iload_n 3, 1) := by decide +kernel
theorem dX0_mostTried_18 : decode cX0_mostTried 18 = .ok (.iload_n 1, 1) := by decide +kernel
theorem dX0_mostTried_19 : decode cX0_mostTried 19 = .ok (.invokestatic 125, 3) := by decide +kernel
theorem dX0_mostTried_22 : decode cX0_mostTried 22 = .ok (.aload_n 0, 1) := by decide +kernel
theorem dX0_mostTried_23 : decode cX0_mostTried 23 = .ok (.getfield 15, 3) := by decide +kernel
theorem dX0_mostTried_26 : decode cX0_mostTried 26 = .ok (.iload_n 1, 1) := by decide +kernel
theorem dX0_mostTried_27 : decode cX0_mostTried 27 = .ok (.iaload, 1) := by decide +kernel
theorem dX0_mostTried_28 : decode cX0_mostTried 28 = .ok (.if_icmp .ge 7, 3) := by decide +kernel
theorem dX0_mostTried_31 : decode cX0_mostTried 31 = .ok (.iconst 1, 1) := by decide +kernel
theorem dX0_mostTried_32 : decode cX0_mostTried 32 = .ok (.goto 4, 3) := by decide +kernel
theorem dX0_mostTried_35 : decode cX0_mostTried 35 = .ok (.iconst 0, 1) := by decide +kernel
theorem dX0_mostTried_36 : decode cX0_mostTried 36 = .ok (.istore 4, 2) := by decide +kernel
theorem dX0_mostTried_38 : decode cX0_mostTried 38 = .ok (.aload_n 0, 1) := by decide +kernel
theorem dX0_mostTried_39 : decode cX0_mostTried 39 = .ok (.getfield 36, 3) := by decide +kernel
theorem dX0_mostTried_42 : decode cX0_mostTried 42 = .ok (.iload_n 3, 1) := by decide +kernel
theorem dX0_mostTried_43 : decode cX0_mostTried 43 = .ok (.baload, 1) := by decide +kernel
theorem dX0_mostTried_44 : decode cX0_mostTried 44 = .ok (.ifCond .eq 18, 3) := by decide +kernel
theorem dX0_mostTried_47 : decode cX0_mostTried 47 = .ok (.iload 4, 2) := by decide +kernel
theorem dX0_mostTried_49 : decode cX0_mostTried 49 = .ok (.ifCond .eq 13, 3) := by decide +kernel
theorem dX0_mostTried_52 : decode cX0_mostTried 52 = .ok (.iload_n 2, 1) := by decide +kernel
theorem dX0_mostTried_53 : decode cX0_mostTried 53 = .ok (.aload_n 0, 1) := by decide +kernel
theorem dX0_mostTried_54 : decode cX0_mostTried 54 = .ok (.iload_n 3, 1) := by decide +kernel
theorem dX0_mostTried_55 : decode cX0_mostTried 55 = .ok (.invokevirtual 128, 3) := by decide +kernel
theorem dX0_mostTried_58 : decode cX0_mostTried 58 = .ok (.invokestatic 131, 3) := by decide +kernel
theorem dX0_mostTried_61 : decode cX0_mostTried 61 = .ok (.istore_n 2, 1) := by decide +kernel
theorem dX0_mostTried_62 : decode cX0_mostTried 62 = .ok (.iinc 3 1, 3) := by decide +kernel
theorem dX0_mostTried_65 : decode cX0_mostTried 65 = .ok (.goto (-61), 3) := by decide +kernel
theorem dX0_mostTried_68 : decode cX0_mostTried 68 = .ok (.iload_n 2, 1) := by decide +kernel
theorem dX0_mostTried_69 : decode cX0_mostTried 69 = .ok (.ireturn, 1) := by decide +kernel
theorem dX0_sumOf_0 : decode cX0_sumOf 0 = .ok (.iconst 0, 1) := by decide +kernel
theorem dX0_sumOf_1 : decode cX0_sumOf 1 = .ok (.istore_n 2, 1) := by decide +kernel
theorem dX0_sumOf_2 : decode cX0_sumOf 2 = .ok (.iconst 0, 1) := by decide +kernel
theorem dX0_sumOf_3 : decode cX0_sumOf 3 = .ok (.istore_n 3, 1) := by decide +kernel
theorem dX0_sumOf_4 : decode cX0_sumOf 4 = .ok (.iload_n 3, 1) := by decide +kernel
theorem dX0_sumOf_5 : decode cX0_sumOf 5 = .ok (.aload_n 0, 1) := by decide +kernel
theorem dX0_sumOf_6 : decode cX0_sumOf 6 = .ok (.getfield 40, 3) := by decide +kernel
theorem dX0_sumOf_9 : decode cX0_sumOf 9 = .ok (.if_icmp .ge 17, 3) := by decide +kernel
theorem dX0_sumOf_12 : decode cX0_sumOf 12 = .ok (.iload_n 2, 1) := by decide +kernel
theorem dX0_sumOf_13 : decode cX0_sumOf 13 = .ok (.iload_n 1, 1) := by decide +kernel
theorem dX0_sumOf_14 : decode cX0_sumOf 14 = .ok (.iload_n 3, 1) := by decide +kernel
theorem dX0_sumOf_15 : decode cX0_sumOf 15 = .ok (.invokestatic 125, 3) := by decide +kernel
theorem dX0_sumOf_18 : decode cX0_sumOf 18 = .ok (.iadd, 1) := by decide +kernel
theorem dX0_sumOf_19 : decode cX0_sumOf 19 = .ok (.istore_n 2, 1) := by decide +kernel
theorem dX0_sumOf_20 : decode cX0_sumOf 20 = .ok (.iinc 3 1, 3) := by decide +kernel
theorem dX0_sumOf_23 : decode cX0_sumOf 23 = .ok (.goto (-19), 3) := by decide +kernel
theorem dX0_sumOf_26 : decode cX0_sumOf 26 = .ok (.iload_n 2, 1) := by decide +kernel
theorem dX0_sumOf_27 : decode cX0_sumOf 27 = .ok (.ireturn, 1) := by decide +kernel
theorem dX0_shortRulesByTrial_0 : decode cX0_shortRulesByTrial 0 = .ok (.iconst 0, 1) := by decide +kernel
theorem dX0_shortRulesByTrial_1 : decode cX0_shortRulesByTrial 1 = .ok (.istore_n 2, 1) := by decide +kernel
theorem dX0_shortRulesByTrial_2 : decode cX0_shortRulesByTrial 2 = .ok (.iconst 0, 1) := by decide +kernel
theorem dX0_shortRulesByTrial_3 : decode cX0_shortRulesByTrial 3 = .ok (.istore_n 3, 1) := by decide +kernel
theorem dX0_shortRulesByTrial_4 : decode cX0_shortRulesByTrial 4 = .ok (.iload_n 3, 1) := by decide +kernel
theorem dX0_shortRulesByTrial_5 : decode cX0_shortRulesByTrial 5 = .ok (.aload_n 0, 1) := by decide +kernel
theorem dX0_shortRulesByTrial_6 : decode cX0_shortRulesByTrial 6 = .ok (.getfield 40, 3) := by decide +kernel
theorem dX0_shortRulesByTrial_9 : decode cX0_shortRulesByTrial 9 = .ok (.if_icmp .ge 24, 3) := by decide +kernel
theorem dX0_shortRulesByTrial_12 : decode cX0_shortRulesByTrial 12 = .ok (.aload_n 0, 1) := by decide +kernel
theorem dX0_shortRulesByTrial_13 : decode cX0_shortRulesByTrial 13 = .ok (.iload_n 3, 1) := by decide +kernel
theorem dX0_shortRulesByTrial_14 : decode cX0_shortRulesByTrial 14 = .ok (.invokevirtual 122, 3) := by decide +kernel
theorem dX0_shortRulesByTrial_17 : decode cX0_shortRulesByTrial 17 = .ok (.iload_n 1, 1) := by decide +kernel
theorem dX0_shortRulesByTrial_18 : decode cX0_shortRulesByTrial 18 = .ok (.if_icmp .ne 9, 3) := by decide +kernel
theorem dX0_shortRulesByTrial_21 : decode cX0_shortRulesByTrial 21 = .ok (.iload_n 2, 1) := by decide +kernel
theorem dX0_shortRulesByTrial_22 : decode cX0_shortRulesByTrial 22 = .ok (.iconst 1, 1) := by decide +kernel
theorem dX0_shortRulesByTrial_23 : decode cX0_shortRulesByTrial 23 = .ok (.iload_n 3, 1) := by decide +kernel
theorem dX0_shortRulesByTrial_24 : decode cX0_shortRulesByTrial 24 = .ok (.ishl, 1) := by decide +kernel
theorem dX0_shortRulesByTrial_25 : decode cX0_shortRulesByTrial 25 = .ok (.ior, 1) := by decide +kernel
theorem dX0_shortRulesByTrial_26 : decode cX0_shortRulesByTrial 26 = .ok (.istore_n 2, 1) := by decide +kernel
theorem dX0_shortRulesByTrial_27 : decode cX0_shortRulesByTrial 27 = .ok (.iinc 3 1, 3) := by decide +kernel
theorem dX0_shortRulesByTrial_30 : decode cX0_shortRulesByTrial 30 = .ok (.goto (-26), 3) := by decide +kernel
theorem dX0_shortRulesByTrial_33 : decode cX0_shortRulesByTrial 33 = .ok (.aload_n 0, 1) := by decide +kernel
theorem dX0_shortRulesByTrial_34 : decode cX0_shortRulesByTrial 34 = .ok (.iload_n 2, 1) := by decide +kernel
theorem dX0_shortRulesByTrial_35 : decode cX0_shortRulesByTrial 35 = .ok (.invokevirtual 113, 3) := by decide +kernel
theorem dX0_shortRulesByTrial_38 : decode cX0_shortRulesByTrial 38 = .ok (.ireturn, 1) := by decide +kernel
theorem dX1_init_0 : decode cX1_init 0 = .ok (.aload_n 0, 1) := by decide +kernel
theorem dX1_init_1 : decode cX1_init 1 = .ok (.iload_n 1, 1) := by decide +kernel
theorem dX1_init_2 : decode cX1_init 2 = .ok (.invokespecial 3, 3) := by decide +kernel
theorem dX1_init_5 : decode cX1_init 5 = .ok (.aload_n 0, 1) := by decide +kernel
theorem dX1_init_6 : decode cX1_init 6 = .ok (.iload_n 2, 1) := by decide +kernel
theorem dX1_init_7 : decode cX1_init 7 = .ok (.putfield 9, 3) := by decide +kernel
theorem dX1_init_10 : decode cX1_init 10 = .ok (.aload_n 0, 1) := by decide +kernel
theorem dX1_init_11 : decode cX1_init 11 = .ok (.iload_n 3, 1) := by decide +kernel
theorem dX1_init_12 : decode cX1_init 12 = .ok (.putfield 15, 3) := by decide +kernel
theorem dX1_init_15 : decode cX1_init 15 = .ok (.aload_n 0, 1) := by decide +kernel
theorem dX1_init_16 : decode cX1_init 16 = .ok (.iload 4, 2) := by decide +kernel
theorem dX1_init_18 : decode cX1_init 18 = .ok (.putfield 18, 3) := by decide +kernel
theorem dX1_init_21 : decode cX1_init 21 = .ok (.aload_n 0, 1) := by decide +kernel
theorem dX1_init_22 : decode cX1_init 22 = .ok (.iload 5, 2) := by decide +kernel
theorem dX1_init_24 : decode cX1_init 24 = .ok (.putfield 21, 3) := by decide +kernel
theorem dX1_init_27 : decode cX1_init 27 = .ok (.return_, 1) := by decide +kernel
theorem dX1_isTrue_0 : decode cX1_isTrue 0 = .ok (.iconst 0, 1) := by decide +kernel
theorem dX1_isTrue_1 : decode cX1_isTrue 1 = .ok (.istore 5, 2) := by decide +kernel
theorem dX1_isTrue_3 : decode cX1_isTrue 3 = .ok (.aload_n 0, 1) := by decide +kernel
theorem dX1_isTrue_4 : decode cX1_isTrue 4 = .ok (.getfield 15, 3) := by decide +kernel
theorem dX1_isTrue_7 : decode cX1_isTrue 7 = .ok (.lload_n 3, 1) := by decide +kernel
theorem dX1_isTrue_8 : decode cX1_isTrue 8 = .ok (.invokestatic 24, 3) := by decide +kernel
theorem dX1_isTrue_11 : decode cX1_isTrue 11 = .ok (.ifCond .eq 6, 3) := by decide +kernel
theorem dX1_isTrue_14 : decode cX1_isTrue 14 = .ok (.iinc 5 1, 3) := by decide +kernel
theorem dX1_isTrue_17 : decode cX1_isTrue 17 = .ok (.aload_n 0, 1) := by decide +kernel
theorem dX1_isTrue_18 : decode cX1_isTrue 18 = .ok (.getfield 18, 3) := by decide +kernel
theorem dX1_isTrue_21 : decode cX1_isTrue 21 = .ok (.lload_n 3, 1) := by decide +kernel
theorem dX1_isTrue_22 : decode cX1_isTrue 22 = .ok (.invokestatic 24, 3) := by decide +kernel
theorem dX1_isTrue_25 : decode cX1_isTrue 25 = .ok (.ifCond .eq 6, 3) := by decide +kernel
theorem dX1_isTrue_28 : decode cX1_isTrue 28 = .ok (.iinc 5 1, 3) := by decide +kernel
theorem dX1_isTrue_31 : decode cX1_isTrue 31 = .ok (.aload_n 0, 1) := by decide +kernel
theorem dX1_isTrue_32 : decode cX1_isTrue 32 = .ok (.getfield 21, 3) := by decide +kernel
theorem dX1_isTrue_35 : decode cX1_isTrue 35 = .ok (.iconst (-1), 1) := by decide +kernel
theorem dX1_isTrue_36 : decode cX1_isTrue 36 = .ok (.if_icmp .eq 17, 3) := by decide +kernel
theorem dX1_isTrue_39 : decode cX1_isTrue 39 = .ok (.aload_n 0, 1) := by decide +kernel
theorem dX1_isTrue_40 : decode cX1_isTrue 40 = .ok (.getfield 21, 3) := by decide +kernel
theorem dX1_isTrue_43 : decode cX1_isTrue 43 = .ok (.lload_n 3, 1) := by decide +kernel
theorem dX1_isTrue_44 : decode cX1_isTrue 44 = .ok (.invokestatic 24, 3) := by decide +kernel
theorem dX1_isTrue_47 : decode cX1_isTrue 47 = .ok (.ifCond .eq 6, 3) := by decide +kernel
theorem dX1_isTrue_50 : decode cX1_isTrue 50 = .ok (.iinc 5 1, 3) := by decide +kernel
theorem dX1_isTrue_53 : decode cX1_isTrue 53 = .ok (.iload 5, 2) := by decide +kernel
theorem dX1_isTrue_55 : decode cX1_isTrue 55 = .ok (.aload_n 0, 1) := by decide +kernel
theorem dX1_isTrue_56 : decode cX1_isTrue 56 = .ok (.getfield 9, 3) := by decide +kernel
theorem dX1_isTrue_59 : decode cX1_isTrue 59 = .ok (.if_icmp .lt 7, 3) := by decide +kernel
theorem dX1_isTrue_62 : decode cX1_isTrue 62 = .ok (.iconst 1, 1) := by decide +kernel
theorem dX1_isTrue_63 : decode cX1_isTrue 63 = .ok (.goto 4, 3) := by decide +kernel
theorem dX1_isTrue_66 : decode cX1_isTrue 66 = .ok (.iconst 0, 1) := by decide +kernel
theorem dX1_isTrue_67 : decode cX1_isTrue 67 = .ok (.ireturn, 1) := by decide +kernel
theorem dX2_init_0 : decode cX2_init 0 = .ok (.aload_n 0, 1) := by decide +kernel
theorem dX2_init_1 : decode cX2_init 1 = .ok (.invokespecial 3, 3) := by decide +kernel
theorem dX2_init_4 : decode cX2_init 4 = .ok (.aload_n 0, 1) := by decide +kernel
theorem dX2_init_5 : decode cX2_init 5 = .ok (.iconst 4, 1) := by decide +kernel
theorem dX2_init_6 : decode cX2_init 6 = .ok (.newarray .int, 2) := by decide +kernel
theorem dX2_init_8 : decode cX2_init 8 = .ok (.putfield 9, 3) := by decide +kernel
theorem dX2_init_11 : decode cX2_init 11 = .ok (.aload_n 0, 1) := by decide +kernel
theorem dX2_init_12 : decode cX2_init 12 = .ok (.new 15, 3) := by decide +kernel
theorem dX2_init_15 : decode cX2_init 15 = .ok (.dup, 1) := by decide +kernel
theorem dX2_init_16 : decode cX2_init 16 = .ok (.invokespecial 17, 3) := by decide +kernel
theorem dX2_init_19 : decode cX2_init 19 = .ok (.putfield 18, 3) := by decide +kernel
theorem dX2_init_22 : decode cX2_init 22 = .ok (.aload_n 0, 1) := by decide +kernel
theorem dX2_init_23 : decode cX2_init 23 = .ok (.iconst (-1), 1) := by decide +kernel
theorem dX2_init_24 : decode cX2_init 24 = .ok (.putfield 22, 3) := by decide +kernel
theorem dX2_init_27 : decode cX2_init 27 = .ok (.aload_n 0, 1) := by decide +kernel
theorem dX2_init_28 : decode cX2_init 28 = .ok (.iload_n 1, 1) := by decide +kernel
theorem dX2_init_29 : decode cX2_init 29 = .ok (.putfield 26, 3) := by decide +kernel
theorem dX2_init_32 : decode cX2_init 32 = .ok (.aload_n 0, 1) := by decide +kernel
theorem dX2_init_33 : decode cX2_init 33 = .ok (.iload_n 2, 1) := by decide +kernel
theorem dX2_init_34 : decode cX2_init 34 = .ok (.putfield 29, 3) := by decide +kernel
theorem dX2_init_37 : decode cX2_init 37 = .ok (.aload_n 0, 1) := by decide +kernel
theorem dX2_init_38 : decode cX2_init 38 = .ok (.iload_n 3, 1) := by decide +kernel
theorem dX2_init_39 : decode cX2_init 39 = .ok (.putfield 32, 3) := by decide +kernel
theorem dX2_init_42 : decode cX2_init 42 = .ok (.return_, 1) := by decide +kernel
theorem dX2_allReserved_0 : decode cX2_allReserved 0 = .ok (.iconst 0, 1) := by decide +kernel
theorem dX2_allReserved_1 : decode cX2_allReserved 1 = .ok (.istore_n 1, 1) := by decide +kernel
theorem dX2_allReserved_2 : decode cX2_allReserved 2 = .ok (.iconst 0, 1) := by decide +kernel
theorem dX2_allReserved_3 : decode cX2_allReserved 3 = .ok (.istore_n 2, 1) := by decide +kernel
theorem dX2_allReserved_4 : decode cX2_allReserved 4 = .ok (.iload_n 2, 1) := by decide +kernel
theorem dX2_allReserved_5 : decode cX2_allReserved 5 = .ok (.iconst 4, 1) := by decide +kernel
theorem dX2_allReserved_6 : decode cX2_allReserved 6 = .ok (.if_icmp .ge 18, 3) := by decide +kernel
theorem dX2_allReserved_9 : decode cX2_allReserved 9 = .ok (.iload_n 1, 1) := by decide +kernel
theorem dX2_allReserved_10 : decode cX2_allReserved 10 = .ok (.aload_n 0, 1) := by decide +kernel
theorem dX2_allReserved_11 : decode cX2_allReserved 11 = .ok (.getfield 9, 3) := by decide +kernel
theorem dX2_allReserved_14 : decode cX2_allReserved 14 = .ok (.iload_n 2, 1) := by decide +kernel
theorem dX2_allReserved_15 : decode cX2_allReserved 15 = .ok (.iaload, 1) := by decide +kernel
theorem dX2_allReserved_16 : decode cX2_allReserved 16 = .ok (.iadd, 1) := by decide +kernel
theorem dX2_allReserved_17 : decode cX2_allReserved 17 = .ok (.istore_n 1, 1) := by decide +kernel
theorem dX2_allReserved_18 : decode cX2_allReserved 18 = .ok (.iinc 2 1, 3) := by decide +kernel
theorem dX2_allReserved_21 : decode cX2_allReserved 21 = .ok (.goto (-17), 3) := by decide +kernel
theorem dX2_allReserved_24 : decode cX2_allReserved 24 = .ok (.iload_n 1, 1) := by decide +kernel
theorem dX2_allReserved_25 : decode cX2_allReserved 25 = .ok (.ireturn, 1) := by decide +kernel
theorem dX2_placeFor_0 : decode cX2_placeFor 0 = .ok (.iconst 0, 1) := by decide +kernel
theorem dX2_placeFor_1 : decode cX2_placeFor 1 = .ok (.istore_n 2, 1) := by decide +kernel
theorem dX2_placeFor_2 : decode cX2_placeFor 2 = .ok (.iload_n 2, 1) := by decide +kernel
theorem dX2_placeFor_3 : decode cX2_placeFor 3 = .ok (.aload_n 0, 1) := by decide +kernel
theorem dX2_placeFor_4 : decode cX2_placeFor 4 = .ok (.getfield 18, 3) := by decide +kernel
theorem dX2_placeFor_7 : decode cX2_placeFor 7 = .ok (.invokevirtual 35, 3) := by decide +kernel
theorem dX2_placeFor_10 : decode cX2_placeFor 10 = .ok (.if_icmp .ge 23, 3) := by decide +kernel
theorem dX2_placeFor_13 : decode cX2_placeFor 13 = .ok (.aload_n 0, 1) := by decide +kernel
theorem dX2_placeFor_14 : decode cX2_placeFor 14 = .ok (.getfield 18, 3) := by decide +kernel
theorem dX2_placeFor_17 : decode cX2_placeFor 17 = .ok (.iload_n 2, 1) := by decide +kernel
theorem dX2_placeFor_18 : decode cX2_placeFor 18 = .ok (.invokevirtual 39, 3) := by decide +kernel
theorem dX2_placeFor_21 : decode cX2_placeFor 21 = .ok (.aload_n 1, 1) := by decide +kernel
theorem dX2_placeFor_22 : decode cX2_placeFor 22 = .ok (.if_acmp .ne 5, 3) := by decide +kernel
theorem dX2_placeFor_25 : decode cX2_placeFor 25 = .ok (.iload_n 2, 1) := by decide +kernel
theorem dX2_placeFor_26 : decode cX2_placeFor 26 = .ok (.ireturn, 1) := by decide +kernel
theorem dX2_placeFor_27 : decode cX2_placeFor 27 = .ok (.iinc 2 1, 3) := by decide +kernel
theorem dX2_placeFor_30 : decode cX2_placeFor 30 = .ok (.goto (-28), 3) := by decide +kernel
theorem dX2_placeFor_33 : decode cX2_placeFor 33 = .ok (.iconst (-1), 1) := by decide +kernel
theorem dX2_placeFor_34 : decode cX2_placeFor 34 = .ok (.ireturn, 1) := by decide +kernel
theorem dX2_stopWaiting_0 : decode cX2_stopWaiting 0 = .ok (.aload_n 0, 1) := by decide +kernel
theorem dX2_stopWaiting_1 : decode cX2_stopWaiting 1 = .ok (.aload_n 1, 1) := by decide +kernel
theorem dX2_stopWaiting_2 : decode cX2_stopWaiting 2 = .ok (.invokevirtual 43, 3) := by decide +kernel
theorem dX2_stopWaiting_5 : decode cX2_stopWaiting 5 = .ok (.istore_n 2, 1) := by decide +kernel
theorem dX2_stopWaiting_6 : decode cX2_stopWaiting 6 = .ok (.iload_n 2, 1) := by decide +kernel
theorem dX2_stopWaiting_7 : decode cX2_stopWaiting 7 = .ok (.iconst (-1), 1) := by decide +kernel
theorem dX2_stopWaiting_8 : decode cX2_stopWaiting 8 = .ok (.if_icmp .eq 12, 3) := by decide +kernel
theorem dX2_stopWaiting_11 : decode cX2_stopWaiting 11 = .ok (.aload_n 0, 1) := by decide +kernel
theorem dX2_stopWaiting_12 : decode cX2_stopWaiting 12 = .ok (.getfield 18, 3) := by decide +kernel
theorem dX2_stopWaiting_15 : decode cX2_stopWaiting 15 = .ok (.iload_n 2, 1) := by decide +kernel
theorem dX2_stopWaiting_16 : decode cX2_stopWaiting 16 = .ok (.invokevirtual 47, 3) := by decide +kernel
theorem dX2_stopWaiting_19 : decode cX2_stopWaiting 19 = .ok (.pop, 1) := by decide +kernel
theorem dX2_stopWaiting_20 : decode cX2_stopWaiting 20 = .ok (.return_, 1) := by decide +kernel
theorem dX3_init_0 : decode cX3_init 0 = .ok (.aload_n 0, 1) := by decide +kernel
theorem dX3_init_1 : decode cX3_init 1 = .ok (.iconst 0, 1) := by decide +kernel
theorem dX3_init_2 : decode cX3_init 2 = .ok (.invokespecial 1, 3) := by decide +kernel
theorem dX3_init_5 : decode cX3_init 5 = .ok (.aload_n 0, 1) := by decide +kernel
theorem dX3_init_6 : decode cX3_init 6 = .ok (.iload_n 1, 1) := by decide +kernel
theorem dX3_init_7 : decode cX3_init 7 = .ok (.putfield 7, 3) := by decide +kernel
theorem dX3_init_10 : decode cX3_init 10 = .ok (.return_, 1) := by decide +kernel
theorem dX3_isTrue_0 : decode cX3_isTrue 0 = .ok (.iload_n 2, 1) := by decide +kernel
theorem dX3_isTrue_1 : decode cX3_isTrue 1 = .ok (.aload_n 0, 1) := by decide +kernel
theorem dX3_isTrue_2 : decode cX3_isTrue 2 = .ok (.getfield 7, 3) := by decide +kernel
theorem dX3_isTrue_5 : decode cX3_isTrue 5 = .ok (.if_icmp .lt 7, 3) := by decide +kernel
theorem dX3_isTrue_8 : decode cX3_isTrue 8 = .ok (.iconst 1, 1) := by decide +kernel
theorem dX3_isTrue_9 : decode cX3_isTrue 9 = .ok (.goto 4, 3) := by decide +kernel
theorem dX3_isTrue_12 : decode cX3_isTrue 12 = .ok (.iconst 0, 1) := by decide +kernel
theorem dX3_isTrue_13 : decode cX3_isTrue 13 = .ok (.ireturn, 1) := by decide +kernel
theorem dX4_init_0 : decode cX4_init 0 = .ok (.aload_n 0, 1) := by decide +kernel
theorem dX4_init_1 : decode cX4_init 1 = .ok (.invokespecial 3, 3) := by decide +kernel
theorem dX4_init_4 : decode cX4_init 4 = .ok (.aload_n 0, 1) := by decide +kernel
theorem dX4_init_5 : decode cX4_init 5 = .ok (.iload_n 1, 1) := by decide +kernel
theorem dX4_init_6 : decode cX4_init 6 = .ok (.putfield 9, 3) := by decide +kernel
theorem dX4_init_9 : decode cX4_init 9 = .ok (.return_, 1) := by decide +kernel
theorem dX5_init_0 : decode cX5_init 0 = .ok (.aload_n 0, 1) := by decide +kernel
theorem dX5_init_1 : decode cX5_init 1 = .ok (.iconst 0, 1) := by decide +kernel
theorem dX5_init_2 : decode cX5_init 2 = .ok (.invokespecial 1, 3) := by decide +kernel
theorem dX5_init_5 : decode cX5_init 5 = .ok (.aload_n 0, 1) := by decide +kernel
theorem dX5_init_6 : decode cX5_init 6 = .ok (.iload_n 1, 1) := by decide +kernel
theorem dX5_init_7 : decode cX5_init 7 = .ok (.putfield 7, 3) := by decide +kernel
theorem dX5_init_10 : decode cX5_init 10 = .ok (.aload_n 0, 1) := by decide +kernel
theorem dX5_init_11 : decode cX5_init 11 = .ok (.iload_n 2, 1) := by decide +kernel
theorem dX5_init_12 : decode cX5_init 12 = .ok (.putfield 13, 3) := by decide +kernel
theorem dX5_init_15 : decode cX5_init 15 = .ok (.return_, 1) := by decide +kernel
theorem dX5_isTrue_0 : decode cX5_isTrue 0 = .ok (.aload_n 1, 1) := by decide +kernel
theorem dX5_isTrue_1 : decode cX5_isTrue 1 = .ok (.getfield 16, 3) := by decide +kernel
theorem dX5_isTrue_4 : decode cX5_isTrue 4 = .ok (.aload_n 0, 1) := by decide +kernel
theorem dX5_isTrue_5 : decode cX5_isTrue 5 = .ok (.getfield 7, 3) := by decide +kernel
theorem dX5_isTrue_8 : decode cX5_isTrue 8 = .ok (.iaload, 1) := by decide +kernel
theorem dX5_isTrue_9 : decode cX5_isTrue 9 = .ok (.aload_n 0, 1) := by decide +kernel
theorem dX5_isTrue_10 : decode cX5_isTrue 10 = .ok (.getfield 13, 3) := by decide +kernel
theorem dX5_isTrue_13 : decode cX5_isTrue 13 = .ok (.if_icmp .lt 7, 3) := by decide +kernel
theorem dX5_isTrue_16 : decode cX5_isTrue 16 = .ok (.iconst 1, 1) := by decide +kernel
theorem dX5_isTrue_17 : decode cX5_isTrue 17 = .ok (.goto 4, 3) := by decide +kernel
theorem dX5_isTrue_20 : decode cX5_isTrue 20 = .ok (.iconst 0, 1) := by decide +kernel
theorem dX5_isTrue_21 : decode cX5_isTrue 21 = .ok (.ireturn, 1) := by decide +kernel
theorem dX6_init_0 : decode cX6_init 0 = .ok (.aload_n 0, 1) := by decide +kernel
theorem dX6_init_1 : decode cX6_init 1 = .ok (.iload_n 1, 1) := by decide +kernel
theorem dX6_init_2 : decode cX6_init 2 = .ok (.invokespecial 1, 3) := by decide +kernel
theorem dX6_init_5 : decode cX6_init 5 = .ok (.aload_n 0, 1) := by decide +kernel
theorem dX6_init_6 : decode cX6_init 6 = .ok (.iload_n 2, 1) := by decide +kernel
theorem dX6_init_7 : decode cX6_init 7 = .ok (.putfield 7, 3) := by decide +kernel
theorem dX6_init_10 : decode cX6_init 10 = .ok (.return_, 1) := by decide +kernel
theorem dX6_isTrue_0 : decode cX6_isTrue 0 = .ok (.aload_n 0, 1) := by decide +kernel
theorem dX6_isTrue_1 : decode cX6_isTrue 1 = .ok (.getfield 7, 3) := by decide +kernel
theorem dX6_isTrue_4 : decode cX6_isTrue 4 = .ok (.lload_n 3, 1) := by decide +kernel
theorem dX6_isTrue_5 : decode cX6_isTrue 5 = .ok (.invokestatic 13, 3) := by decide +kernel
theorem dX6_isTrue_8 : decode cX6_isTrue 8 = .ok (.ifCond .ne 7, 3) := by decide +kernel
theorem dX6_isTrue_11 : decode cX6_isTrue 11 = .ok (.iconst 1, 1) := by decide +kernel
theorem dX6_isTrue_12 : decode cX6_isTrue 12 = .ok (.goto 4, 3) := by decide +kernel
theorem dX6_isTrue_15 : decode cX6_isTrue 15 = .ok (.iconst 0, 1) := by decide +kernel
theorem dX6_isTrue_16 : decode cX6_isTrue 16 = .ok (.ireturn, 1) := by decide +kernel
theorem dX8_init_0 : decode cX8_init 0 = .ok (.aload_n 0, 1) := by decide +kernel
theorem dX8_init_1 : decode cX8_init 1 = .ok (.invokespecial 3, 3) := by decide +kernel
theorem dX8_init_4 : decode cX8_init 4 = .ok (.aload_n 0, 1) := by decide +kernel
theorem dX8_init_5 : decode cX8_init 5 = .ok (.bipush 20, 2) := by decide +kernel
theorem dX8_init_7 : decode cX8_init 7 = .ok (.newarray .boolean, 2) := by decide +kernel
theorem dX8_init_9 : decode cX8_init 9 = .ok (.putfield 9, 3) := by decide +kernel
theorem dX8_init_12 : decode cX8_init 12 = .ok (.aload_n 0, 1) := by decide +kernel
theorem dX8_init_13 : decode cX8_init 13 = .ok (.bipush 20, 2) := by decide +kernel
theorem dX8_init_15 : decode cX8_init 15 = .ok (.newarray .boolean, 2) := by decide +kernel
theorem dX8_init_17 : decode cX8_init 17 = .ok (.putfield 15, 3) := by decide +kernel
theorem dX8_init_20 : decode cX8_init 20 = .ok (.aload_n 0, 1) := by decide +kernel
theorem dX8_init_21 : decode cX8_init 21 = .ok (.bipush 20, 2) := by decide +kernel
theorem dX8_init_23 : decode cX8_init 23 = .ok (.newarray .int, 2) := by decide +kernel
theorem dX8_init_25 : decode cX8_init 25 = .ok (.putfield 18, 3) := by decide +kernel
theorem dX8_init_28 : decode cX8_init 28 = .ok (.aload_n 0, 1) := by decide +kernel
theorem dX8_init_29 : decode cX8_init 29 = .ok (.bipush 20, 2) := by decide +kernel
theorem dX8_init_31 : decode cX8_init 31 = .ok (.newarray .int, 2) := by decide +kernel
theorem dX8_init_33 : decode cX8_init 33 = .ok (.putfield 22, 3) := by decide +kernel
theorem dX8_init_36 : decode cX8_init 36 = .ok (.aload_n 0, 1) := by decide +kernel
theorem dX8_init_37 : decode cX8_init 37 = .ok (.bipush 20, 2) := by decide +kernel
theorem dX8_init_39 : decode cX8_init 39 = .ok (.newarray .int, 2) := by decide +kernel
theorem dX8_init_41 : decode cX8_init 41 = .ok (.putfield 25, 3) := by decide +kernel
theorem dX8_init_44 : decode cX8_init 44 = .ok (.aload_n 0, 1) := by decide +kernel
theorem dX8_init_45 : decode cX8_init 45 = .ok (.bipush 20, 2) := by decide +kernel
theorem dX8_init_47 : decode cX8_init 47 = .ok (.iconst 3, 1) := by decide +kernel
theorem dX8_init_48 : decode cX8_init 48 = .ok (.multianewarray 28 2, 4) := by decide +kernel
theorem dX8_init_52 : decode cX8_init 52 = .ok (.putfield 30, 3) := by decide +kernel
theorem dX8_init_55 : decode cX8_init 55 = .ok (.aload_n 0, 1) := by decide +kernel
theorem dX8_init_56 : decode cX8_init 56 = .ok (.iload_n 1, 1) := by decide +kernel
theorem dX8_init_57 : decode cX8_init 57 = .ok (.putfield 33, 3) := by decide +kernel
theorem dX8_init_60 : decode cX8_init 60 = .ok (.aload_n 0, 1) := by decide +kernel
theorem dX8_init_61 : decode cX8_init 61 = .ok (.getfield 18, 3) := by decide +kernel
theorem dX8_init_64 : decode cX8_init 64 = .ok (.iconst (-1), 1) := by decide +kernel
theorem dX8_init_65 : decode cX8_init 65 = .ok (.invokestatic 37, 3) := by decide +kernel
theorem dX8_init_68 : decode cX8_init 68 = .ok (.aload_n 0, 1) := by decide +kernel
theorem dX8_init_69 : decode cX8_init 69 = .ok (.getfield 22, 3) := by decide +kernel
theorem dX8_init_72 : decode cX8_init 72 = .ok (.iconst (-1), 1) := by decide +kernel
theorem dX8_init_73 : decode cX8_init 73 = .ok (.invokestatic 37, 3) := by decide +kernel
theorem dX8_init_76 : decode cX8_init 76 = .ok (.return_, 1) := by decide +kernel
theorem dX8_hasPassed_0 : decode cX8_hasPassed 0 = .ok (.aload_n 0, 1) := by decide +kernel
theorem dX8_hasPassed_1 : decode cX8_hasPassed 1 = .ok (.getfield 22, 3) := by decide +kernel
theorem dX8_hasPassed_4 : decode cX8_hasPassed 4 = .ok (.iload_n 1, 1) := by decide +kernel
theorem dX8_hasPassed_5 : decode cX8_hasPassed 5 = .ok (.iaload, 1) := by decide +kernel
theorem dX8_hasPassed_6 : decode cX8_hasPassed 6 = .ok (.bipush 50, 2) := by decide +kernel
theorem dX8_hasPassed_8 : decode cX8_hasPassed 8 = .ok (.if_icmp .lt 7, 3) := by decide +kernel
theorem dX8_hasPassed_11 : decode cX8_hasPassed 11 = .ok (.iconst 1, 1) := by decide +kernel
theorem dX8_hasPassed_12 : decode cX8_hasPassed 12 = .ok (.goto 4, 3) := by decide +kernel
theorem dX8_hasPassed_15 : decode cX8_hasPassed 15 = .ok (.iconst 0, 1) := by decide +kernel
theorem dX8_hasPassed_16 : decode cX8_hasPassed 16 = .ok (.ireturn, 1) := by decide +kernel
theorem dX8_addAttempt_0 : decode cX8_addAttempt 0 = .ok (.aload_n 0, 1) := by decide +kernel
theorem dX8_addAttempt_1 : decode cX8_addAttempt 1 = .ok (.getfield 25, 3) := by decide +kernel
theorem dX8_addAttempt_4 : decode cX8_addAttempt 4 = .ok (.iload_n 1, 1) := by decide +kernel
theorem dX8_addAttempt_5 : decode cX8_addAttempt 5 = .ok (.iaload, 1) := by decide +kernel
theorem dX8_addAttempt_6 : decode cX8_addAttempt 6 = .ok (.istore_n 3, 1) := by decide +kernel
theorem dX8_addAttempt_7 : decode cX8_addAttempt 7 = .ok (.iload_n 3, 1) := by decide +kernel
theorem dX8_addAttempt_8 : decode cX8_addAttempt 8 = .ok (.iconst 3, 1) := by decide +kernel
theorem dX8_addAttempt_9 : decode cX8_addAttempt 9 = .ok (.if_icmp .ge 37, 3) := by decide +kernel
theorem dX8_addAttempt_12 : decode cX8_addAttempt 12 = .ok (.aload_n 0, 1) := by decide +kernel
theorem dX8_addAttempt_13 : decode cX8_addAttempt 13 = .ok (.getfield 30, 3) := by decide +kernel
theorem dX8_addAttempt_16 : decode cX8_addAttempt 16 = .ok (.iload_n 1, 1) := by decide +kernel
theorem dX8_addAttempt_17 : decode cX8_addAttempt 17 = .ok (.aaload, 1) := by decide +kernel
theorem dX8_addAttempt_18 : decode cX8_addAttempt 18 = .ok (.iload_n 3, 1) := by decide +kernel
theorem dX8_addAttempt_19 : decode cX8_addAttempt 19 = .ok (.iload_n 2, 1) := by decide +kernel
theorem dX8_addAttempt_20 : decode cX8_addAttempt 20 = .ok (.iastore, 1) := by decide +kernel
theorem dX8_addAttempt_21 : decode cX8_addAttempt 21 = .ok (.aload_n 0, 1) := by decide +kernel
theorem dX8_addAttempt_22 : decode cX8_addAttempt 22 = .ok (.getfield 25, 3) := by decide +kernel
theorem dX8_addAttempt_25 : decode cX8_addAttempt 25 = .ok (.iload_n 1, 1) := by decide +kernel
theorem dX8_addAttempt_26 : decode cX8_addAttempt 26 = .ok (.iload_n 3, 1) := by decide +kernel
theorem dX8_addAttempt_27 : decode cX8_addAttempt 27 = .ok (.iconst 1, 1) := by decide +kernel
theorem dX8_addAttempt_28 : decode cX8_addAttempt 28 = .ok (.iadd, 1) := by decide +kernel
theorem dX8_addAttempt_29 : decode cX8_addAttempt 29 = .ok (.iastore, 1) := by decide +kernel
theorem dX8_addAttempt_30 : decode cX8_addAttempt 30 = .ok (.aload_n 0, 1) := by decide +kernel
theorem dX8_addAttempt_31 : decode cX8_addAttempt 31 = .ok (.getfield 22, 3) := by decide +kernel
theorem dX8_addAttempt_34 : decode cX8_addAttempt 34 = .ok (.iload_n 1, 1) := by decide +kernel
theorem dX8_addAttempt_35 : decode cX8_addAttempt 35 = .ok (.aload_n 0, 1) := by decide +kernel
theorem dX8_addAttempt_36 : decode cX8_addAttempt 36 = .ok (.getfield 22, 3) := by decide +kernel
theorem dX8_addAttempt_39 : decode cX8_addAttempt 39 = .ok (.iload_n 1, 1) := by decide +kernel
theorem dX8_addAttempt_40 : decode cX8_addAttempt 40 = .ok (.iaload, 1) := by decide +kernel
theorem dX8_addAttempt_41 : decode cX8_addAttempt 41 = .ok (.iload_n 2, 1) := by decide +kernel
theorem dX8_addAttempt_42 : decode cX8_addAttempt 42 = .ok (.invokestatic 43, 3) := by decide +kernel
theorem dX8_addAttempt_45 : decode cX8_addAttempt 45 = .ok (.iastore, 1) := by decide +kernel
theorem dX8_addAttempt_46 : decode cX8_addAttempt 46 = .ok (.return_, 1) := by decide +kernel
theorem dX8_moveCreditIn_0 : decode cX8_moveCreditIn 0 = .ok (.aload_n 0, 1) := by decide +kernel
theorem dX8_moveCreditIn_1 : decode cX8_moveCreditIn 1 = .ok (.getfield 15, 3) := by decide +kernel
theorem dX8_moveCreditIn_4 : decode cX8_moveCreditIn 4 = .ok (.iload_n 1, 1) := by decide +kernel
theorem dX8_moveCreditIn_5 : decode cX8_moveCreditIn 5 = .ok (.iconst 1, 1) := by decide +kernel
theorem dX8_moveCreditIn_6 : decode cX8_moveCreditIn 6 = .ok (.bastore, 1) := by decide +kernel
theorem dX8_moveCreditIn_7 : decode cX8_moveCreditIn 7 = .ok (.aload_n 0, 1) := by decide +kernel
theorem dX8_moveCreditIn_8 : decode cX8_moveCreditIn 8 = .ok (.getfield 22, 3) := by decide +kernel
theorem dX8_moveCreditIn_11 : decode cX8_moveCreditIn 11 = .ok (.iload_n 1, 1) := by decide +kernel
theorem dX8_moveCreditIn_12 : decode cX8_moveCreditIn 12 = .ok (.aload_n 0, 1) := by decide +kernel
theorem dX8_moveCreditIn_13 : decode cX8_moveCreditIn 13 = .ok (.getfield 22, 3) := by decide +kernel
theorem dX8_moveCreditIn_16 : decode cX8_moveCreditIn 16 = .ok (.iload_n 1, 1) := by decide +kernel
theorem dX8_moveCreditIn_17 : decode cX8_moveCreditIn 17 = .ok (.iaload, 1) := by decide +kernel
theorem dX8_moveCreditIn_18 : decode cX8_moveCreditIn 18 = .ok (.bipush 50, 2) := by decide +kernel
theorem dX8_moveCreditIn_20 : decode cX8_moveCreditIn 20 = .ok (.invokestatic 43, 3) := by decide +kernel
theorem dX8_moveCreditIn_23 : decode cX8_moveCreditIn 23 = .ok (.iastore, 1) := by decide +kernel
theorem dX8_moveCreditIn_24 : decode cX8_moveCreditIn 24 = .ok (.return_, 1) := by decide +kernel
theorem dX8_closeTerm_0 : decode cX8_closeTerm 0 = .ok (.iconst 0, 1) := by decide +kernel
theorem dX8_closeTerm_1 : decode cX8_closeTerm 1 = .ok (.istore_n 1, 1) := by decide +kernel
theorem dX8_closeTerm_2 : decode cX8_closeTerm 2 = .ok (.iconst 0, 1) := by decide +kernel
theorem dX8_closeTerm_3 : decode cX8_closeTerm 3 = .ok (.istore_n 2, 1) := by decide +kernel
theorem dX8_closeTerm_4 : decode cX8_closeTerm 4 = .ok (.iload_n 2, 1) := by decide +kernel
theorem dX8_closeTerm_5 : decode cX8_closeTerm 5 = .ok (.bipush 20, 2) := by decide +kernel
theorem dX8_closeTerm_7 : decode cX8_closeTerm 7 = .ok (.if_icmp .ge 50, 3) := by decide +kernel
theorem dX8_closeTerm_10 : decode cX8_closeTerm 10 = .ok (.aload_n 0, 1) := by decide +kernel
theorem dX8_closeTerm_11 : decode cX8_closeTerm 11 = .ok (.getfield 9, 3) := by decide +kernel
theorem dX8_closeTerm_14 : decode cX8_closeTerm 14 = .ok (.iload_n 2, 1) := by decide +kernel
theorem dX8_closeTerm_15 : decode cX8_closeTerm 15 = .ok (.baload, 1) := by decide +kernel
theorem dX8_closeTerm_16 : decode cX8_closeTerm 16 = .ok (.ifCond .eq 21, 3) := by decide +kernel
theorem dX8_closeTerm_19 : decode cX8_closeTerm 19 = .ok (.aload_n 0, 1) := by decide +kernel
theorem dX8_closeTerm_20 : decode cX8_closeTerm 20 = .ok (.iload_n 2, 1) := by decide +kernel
theorem dX8_closeTerm_21 : decode cX8_closeTerm 21 = .ok (.iconst 0, 1) := by decide +kernel
theorem dX8_closeTerm_22 : decode cX8_closeTerm 22 = .ok (.aload_n 0, 1) := by decide +kernel
theorem dX8_closeTerm_23 : decode cX8_closeTerm 23 = .ok (.getfield 18, 3) := by decide +kernel
theorem dX8_closeTerm_26 : decode cX8_closeTerm 26 = .ok (.iload_n 2, 1) := by decide +kernel
theorem dX8_closeTerm_27 : decode cX8_closeTerm 27 = .ok (.iaload, 1) := by decide +kernel
theorem dX8_closeTerm_28 : decode cX8_closeTerm 28 = .ok (.invokestatic 43, 3) := by decide +kernel
theorem dX8_closeTerm_31 : decode cX8_closeTerm 31 = .ok (.invokevirtual 49, 3) := by decide +kernel
theorem dX8_closeTerm_34 : decode cX8_closeTerm 34 = .ok (.iinc 1 1, 3) := by decide +kernel
theorem dX8_closeTerm_37 : decode cX8_closeTerm 37 = .ok (.aload_n 0, 1) := by decide +kernel
theorem dX8_closeTerm_38 : decode cX8_closeTerm 38 = .ok (.getfield 9, 3) := by decide +kernel
theorem dX8_closeTerm_41 : decode cX8_closeTerm 41 = .ok (.iload_n 2, 1) := by decide +kernel
theorem dX8_closeTerm_42 : decode cX8_closeTerm 42 = .ok (.iconst 0, 1) := by decide +kernel
theorem dX8_closeTerm_43 : decode cX8_closeTerm 43 = .ok (.bastore, 1) := by decide +kernel
theorem dX8_closeTerm_44 : decode cX8_closeTerm 44 = .ok (.aload_n 0, 1) := by decide +kernel
theorem dX8_closeTerm_45 : decode cX8_closeTerm 45 = .ok (.getfield 18, 3) := by decide +kernel
theorem dX8_closeTerm_48 : decode cX8_closeTerm 48 = .ok (.iload_n 2, 1) := by decide +kernel
theorem dX8_closeTerm_49 : decode cX8_closeTerm 49 = .ok (.iconst (-1), 1) := by decide +kernel
theorem dX8_closeTerm_50 : decode cX8_closeTerm 50 = .ok (.iastore, 1) := by decide +kernel
theorem dX8_closeTerm_51 : decode cX8_closeTerm 51 = .ok (.iinc 2 1, 3) := by decide +kernel
theorem dX8_closeTerm_54 : decode cX8_closeTerm 54 = .ok (.goto (-50), 3) := by decide +kernel
theorem dX8_closeTerm_57 : decode cX8_closeTerm 57 = .ok (.iload_n 1, 1) := by decide +kernel
theorem dX8_closeTerm_58 : decode cX8_closeTerm 58 = .ok (.ireturn, 1) := by decide +kernel
theorem dX9_init_0 : decode cX9_init 0 = .ok (.aload_n 0, 1) := by decide +kernel
theorem dX9_init_1 : decode cX9_init 1 = .ok (.iconst 0, 1) := by decide +kernel
theorem dX9_init_2 : decode cX9_init 2 = .ok (.invokespecial 1, 3) := by decide +kernel
theorem dX9_init_5 : decode cX9_init 5 = .ok (.aload_n 0, 1) := by decide +kernel
theorem dX9_init_6 : decode cX9_init 6 = .ok (.iload_n 1, 1) := by decide +kernel
theorem dX9_init_7 : decode cX9_init 7 = .ok (.putfield 7, 3) := by decide +kernel
theorem dX9_init_10 : decode cX9_init 10 = .ok (.return_, 1) := by decide +kernel
theorem dX9_isTrue_0 : decode cX9_isTrue 0 = .ok (.aload_n 1, 1) := by decide +kernel
theorem dX9_isTrue_1 : decode cX9_isTrue 1 = .ok (.getfield 13, 3) := by decide +kernel
theorem dX9_isTrue_4 : decode cX9_isTrue 4 = .ok (.aload_n 0, 1) := by decide +kernel
theorem dX9_isTrue_5 : decode cX9_isTrue 5 = .ok (.getfield 7, 3) := by decide +kernel
theorem dX9_isTrue_8 : decode cX9_isTrue 8 = .ok (.baload, 1) := by decide +kernel
theorem dX9_isTrue_9 : decode cX9_isTrue 9 = .ok (.ifCond .ne 14, 3) := by decide +kernel
theorem dX9_isTrue_12 : decode cX9_isTrue 12 = .ok (.aload_n 1, 1) := by decide +kernel
theorem dX9_isTrue_13 : decode cX9_isTrue 13 = .ok (.aload_n 0, 1) := by decide +kernel
theorem dX9_isTrue_14 : decode cX9_isTrue 14 = .ok (.getfield 7, 3) := by decide +kernel
theorem dX9_isTrue_17 : decode cX9_isTrue 17 = .ok (.invokevirtual 19, 3) := by decide +kernel
theorem dX9_isTrue_20 : decode cX9_isTrue 20 = .ok (.ifCond .eq 7, 3) := by decide +kernel
theorem dX9_isTrue_23 : decode cX9_isTrue 23 = .ok (.iconst 1, 1) := by decide +kernel
theorem dX9_isTrue_24 : decode cX9_isTrue 24 = .ok (.goto 4, 3) := by decide +kernel
theorem dX9_isTrue_27 : decode cX9_isTrue 27 = .ok (.iconst 0, 1) := by decide +kernel
theorem dX9_isTrue_28 : decode cX9_isTrue 28 = .ok (.ireturn, 1) := by decide +kernel
theorem dX10_init_0 : decode cX10_init 0 = .ok (.aload_n 0, 1) := by decide +kernel
theorem dX10_init_1 : decode cX10_init 1 = .ok (.invokespecial 3, 3) := by decide +kernel
theorem dX10_init_4 : decode cX10_init 4 = .ok (.aload_n 0, 1) := by decide +kernel
theorem dX10_init_5 : decode cX10_init 5 = .ok (.sipush 340, 3) := by decide +kernel
theorem dX10_init_8 : decode cX10_init 8 = .ok (.newarray .char, 2) := by decide +kernel
theorem dX10_init_10 : decode cX10_init 10 = .ok (.putfield 11, 3) := by decide +kernel
theorem dX10_init_13 : decode cX10_init 13 = .ok (.return_, 1) := by decide +kernel
theorem dX11_init_0 : decode cX11_init 0 = .ok (.aload_n 0, 1) := by decide +kernel
theorem dX11_init_1 : decode cX11_init 1 = .ok (.invokespecial 3, 3) := by decide +kernel
theorem dX11_init_4 : decode cX11_init 4 = .ok (.aload_n 0, 1) := by decide +kernel
theorem dX11_init_5 : decode cX11_init 5 = .ok (.new 9, 3) := by decide +kernel
theorem dX11_init_8 : decode cX11_init 8 = .ok (.dup, 1) := by decide +kernel
theorem dX11_init_9 : decode cX11_init 9 = .ok (.invokespecial 11, 3) := by decide +kernel
theorem dX11_init_12 : decode cX11_init 12 = .ok (.putfield 12, 3) := by decide +kernel
theorem dX11_init_15 : decode cX11_init 15 = .ok (.aload_n 0, 1) := by decide +kernel
theorem dX11_init_16 : decode cX11_init 16 = .ok (.new 9, 3) := by decide +kernel
theorem dX11_init_19 : decode cX11_init 19 = .ok (.dup, 1) := by decide +kernel
theorem dX11_init_20 : decode cX11_init 20 = .ok (.invokespecial 11, 3) := by decide +kernel
theorem dX11_init_23 : decode cX11_init 23 = .ok (.putfield 16, 3) := by decide +kernel
theorem dX11_init_26 : decode cX11_init 26 = .ok (.aload_n 0, 1) := by decide +kernel
theorem dX11_init_27 : decode cX11_init 27 = .ok (.new 9, 3) := by decide +kernel
theorem dX11_init_30 : decode cX11_init 30 = .ok (.dup, 1) := by decide +kernel
theorem dX11_init_31 : decode cX11_init 31 = .ok (.invokespecial 11, 3) := by decide +kernel
theorem dX11_init_34 : decode cX11_init 34 = .ok (.putfield 19, 3) := by decide +kernel
theorem dX11_init_37 : decode cX11_init 37 = .ok (.aload_n 0, 1) := by decide +kernel
theorem dX11_init_38 : decode cX11_init 38 = .ok (.new 9, 3) := by decide +kernel
theorem dX11_init_41 : decode cX11_init 41 = .ok (.dup, 1) := by decide +kernel
theorem dX11_init_42 : decode cX11_init 42 = .ok (.invokespecial 11, 3) := by decide +kernel
theorem dX11_init_45 : decode cX11_init 45 = .ok (.putfield 22, 3) := by decide +kernel
theorem dX11_init_48 : decode cX11_init 48 = .ok (.aload_n 0, 1) := by decide +kernel
theorem dX11_init_49 : decode cX11_init 49 = .ok (.iconst 4, 1) := by decide +kernel
theorem dX11_init_50 : decode cX11_init 50 = .ok (.newarray .int, 2) := by decide +kernel
theorem dX11_init_52 : decode cX11_init 52 = .ok (.putfield 25, 3) := by decide +kernel
theorem dX11_init_55 : decode cX11_init 55 = .ok (.aload_n 0, 1) := by decide +kernel
theorem dX11_init_56 : decode cX11_init 56 = .ok (.new 29, 3) := by decide +kernel
theorem dX11_init_59 : decode cX11_init 59 = .ok (.dup, 1) := by decide +kernel
theorem dX11_init_60 : decode cX11_init 60 = .ok (.iconst 0, 1) := by decide +kernel
theorem dX11_init_61 : decode cX11_init 61 = .ok (.invokespecial 31, 3) := by decide +kernel
theorem dX11_init_64 : decode cX11_init 64 = .ok (.putfield 34, 3) := by decide +kernel
theorem dX11_init_67 : decode cX11_init 67 = .ok (.aload_n 0, 1) := by decide +kernel
theorem dX11_init_68 : decode cX11_init 68 = .ok (.new 38, 3) := by decide +kernel
theorem dX11_init_71 : decode cX11_init 71 = .ok (.dup, 1) := by decide +kernel
theorem dX11_init_72 : decode cX11_init 72 = .ok (.invokespecial 40, 3) := by decide +kernel
theorem dX11_init_75 : decode cX11_init 75 = .ok (.putfield 41, 3) := by decide +kernel
theorem dX11_init_78 : decode cX11_init 78 = .ok (.aload_n 0, 1) := by decide +kernel
theorem dX11_init_79 : decode cX11_init 79 = .ok (.new 45, 3) := by decide +kernel
theorem dX11_init_82 : decode cX11_init 82 = .ok (.dup, 1) := by decide +kernel
theorem dX11_init_83 : decode cX11_init 83 = .ok (.invokespecial 47, 3) := by decide +kernel
theorem dX11_init_86 : decode cX11_init 86 = .ok (.putfield 48, 3) := by decide +kernel
theorem dX11_init_89 : decode cX11_init 89 = .ok (.aload_n 0, 1) := by decide +kernel
theorem dX11_init_90 : decode cX11_init 90 = .ok (.bipush 20, 2) := by decide +kernel
theorem dX11_init_92 : decode cX11_init 92 = .ok (.newarray .boolean, 2) := by decide +kernel
theorem dX11_init_94 : decode cX11_init 94 = .ok (.putfield 52, 3) := by decide +kernel
theorem dX11_init_97 : decode cX11_init 97 = .ok (.aload_n 0, 1) := by decide +kernel
theorem dX11_init_98 : decode cX11_init 98 = .ok (.bipush 6, 2) := by decide +kernel
theorem dX11_init_100 : decode cX11_init 100 = .ok (.newarray .int, 2) := by decide +kernel
theorem dX11_init_102 : decode cX11_init 102 = .ok (.putfield 56, 3) := by decide +kernel
theorem dX11_init_105 : decode cX11_init 105 = .ok (.return_, 1) := by decide +kernel
theorem dX11_addCourse_0 : decode cX11_addCourse 0 = .ok (.iload_n 1, 1) := by decide +kernel
theorem dX11_addCourse_1 : decode cX11_addCourse 1 = .ok (.iconst 1, 1) := by decide +kernel
theorem dX11_addCourse_2 : decode cX11_addCourse 2 = .ok (.bipush 6, 2) := by decide +kernel
theorem dX11_addCourse_4 : decode cX11_addCourse 4 = .ok (.invokestatic 59, 3) := by decide +kernel
theorem dX11_addCourse_7 : decode cX11_addCourse 7 = .ok (.ifCond .eq 13, 3) := by decide +kernel
theorem dX11_addCourse_10 : decode cX11_addCourse 10 = .ok (.iload_n 2, 1) := by decide +kernel
theorem dX11_addCourse_11 : decode cX11_addCourse 11 = .ok (.iconst 1, 1) := by decide +kernel
theorem dX11_addCourse_12 : decode cX11_addCourse 12 = .ok (.bipush 12, 2) := by decide +kernel
theorem dX11_addCourse_14 : decode cX11_addCourse 14 = .ok (.invokestatic 59, 3) := by decide +kernel
theorem dX11_addCourse_17 : decode cX11_addCourse 17 = .ok (.ifCond .ne 13, 3) := by decide +kernel
theorem dX11_addCourse_20 : decode cX11_addCourse 20 = .ok (.new 63, 3) := by decide +kernel
theorem dX11_addCourse_23 : decode cX11_addCourse 23 = .ok (.dup, 1) := by decide +kernel
theorem dX11_addCourse_24 : decode cX11_addCourse 24 = .ok (.ldc 65, 2) := by decide +kernel
theorem dX11_addCourse_26 : decode cX11_addCourse 26 = .ok (.invokespecial 67, 3) := by decide +kernel
theorem dX11_addCourse_29 : decode cX11_addCourse 29 = .ok (.athrow, 1) := by decide +kernel
theorem dX11_addCourse_30 : decode cX11_addCourse 30 = .ok (.aload_n 0, 1) := by decide +kernel
theorem dX11_addCourse_31 : decode cX11_addCourse 31 = .ok (.getfield 12, 3) := by decide +kernel
theorem dX11_addCourse_34 : decode cX11_addCourse 34 = .ok (.invokevirtual 70, 3) := by decide +kernel
theorem dX11_addCourse_37 : decode cX11_addCourse 37 = .ok (.bipush 20, 2) := by decide +kernel
theorem dX11_addCourse_39 : decode cX11_addCourse 39 = .ok (.if_icmp .lt 13, 3) := by decide +kernel
theorem dX11_addCourse_42 : decode cX11_addCourse 42 = .ok (.new 74, 3) := by decide +kernel
theorem dX11_addCourse_45 : decode cX11_addCourse 45 = .ok (.dup, 1) := by decide +kernel
theorem dX11_addCourse_46 : decode cX11_addCourse 46 = .ok (.ldc 76, 2) := by decide +kernel
theorem dX11_addCourse_48 : decode cX11_addCourse 48 = .ok (.invokespecial 78, 3) := by decide +kernel
theorem dX11_addCourse_51 : decode cX11_addCourse 51 = .ok (.athrow, 1) := by decide +kernel
theorem dX11_addCourse_52 : decode cX11_addCourse 52 = .ok (.aload_n 0, 1) := by decide +kernel
theorem dX11_addCourse_53 : decode cX11_addCourse 53 = .ok (.getfield 12, 3) := by decide +kernel
theorem dX11_addCourse_56 : decode cX11_addCourse 56 = .ok (.new 79, 3) := by decide +kernel
theorem dX11_addCourse_59 : decode cX11_addCourse 59 = .ok (.dup, 1) := by decide +kernel
theorem dX11_addCourse_60 : decode cX11_addCourse 60 = .ok (.aload_n 0, 1) := by decide +kernel
theorem dX11_addCourse_61 : decode cX11_addCourse 61 = .ok (.getfield 12, 3) := by decide +kernel
theorem dX11_addCourse_64 : decode cX11_addCourse 64 = .ok (.invokevirtual 70, 3) := by decide +kernel
theorem dX11_addCourse_67 : decode cX11_addCourse 67 = .ok (.iload_n 1, 1) := by decide +kernel
theorem dX11_addCourse_68 : decode cX11_addCourse 68 = .ok (.iload_n 2, 1) := by decide +kernel
theorem dX11_addCourse_69 : decode cX11_addCourse 69 = .ok (.invokespecial 81, 3) := by decide +kernel
theorem dX11_addCourse_72 : decode cX11_addCourse 72 = .ok (.invokevirtual 84, 3) := by decide +kernel
theorem dX11_addCourse_75 : decode cX11_addCourse 75 = .ok (.pop, 1) := by decide +kernel
theorem dX11_addCourse_76 : decode cX11_addCourse 76 = .ok (.aload_n 0, 1) := by decide +kernel
theorem dX11_addCourse_77 : decode cX11_addCourse 77 = .ok (.getfield 12, 3) := by decide +kernel
theorem dX11_addCourse_80 : decode cX11_addCourse 80 = .ok (.invokevirtual 70, 3) := by decide +kernel
theorem dX11_addCourse_83 : decode cX11_addCourse 83 = .ok (.iconst 1, 1) := by decide +kernel
theorem dX11_addCourse_84 : decode cX11_addCourse 84 = .ok (.isub, 1) := by decide +kernel
theorem dX11_addCourse_85 : decode cX11_addCourse 85 = .ok (.ireturn, 1) := by decide +kernel
theorem dX11_addStudent_0 : decode cX11_addStudent 0 = .ok (.iload_n 1, 1) := by decide +kernel
theorem dX11_addStudent_1 : decode cX11_addStudent 1 = .ok (.invokestatic 88, 3) := by decide +kernel
theorem dX11_addStudent_4 : decode cX11_addStudent 4 = .ok (.aload_n 0, 1) := by decide +kernel
theorem dX11_addStudent_5 : decode cX11_addStudent 5 = .ok (.getfield 16, 3) := by decide +kernel
theorem dX11_addStudent_8 : decode cX11_addStudent 8 = .ok (.invokevirtual 70, 3) := by decide +kernel
theorem dX11_addStudent_11 : decode cX11_addStudent 11 = .ok (.bipush 16, 2) := by decide +kernel
theorem dX11_addStudent_13 : decode cX11_addStudent 13 = .ok (.if_icmp .lt 13, 3) := by decide +kernel
theorem dX11_addStudent_16 : decode cX11_addStudent 16 = .ok (.new 74, 3) := by decide +kernel
theorem dX11_addStudent_19 : decode cX11_addStudent 19 = .ok (.dup, 1) := by decide +kernel
theorem dX11_addStudent_20 : decode cX11_addStudent 20 = .ok (.ldc 91, 2) := by decide +kernel
theorem dX11_addStudent_22 : decode cX11_addStudent 22 = .ok (.invokespecial 78, 3) := by decide +kernel
theorem dX11_addStudent_25 : decode cX11_addStudent 25 = .ok (.athrow, 1) := by decide +kernel
theorem dX11_addStudent_26 : decode cX11_addStudent 26 = .ok (.aload_n 0, 1) := by decide +kernel
theorem dX11_addStudent_27 : decode cX11_addStudent 27 = .ok (.getfield 16, 3) := by decide +kernel
theorem dX11_addStudent_30 : decode cX11_addStudent 30 = .ok (.new 29, 3) := by decide +kernel
theorem dX11_addStudent_33 : decode cX11_addStudent 33 = .ok (.dup, 1) := by decide +kernel
theorem dX11_addStudent_34 : decode cX11_addStudent 34 = .ok (.iload_n 1, 1) := by decide +kernel
theorem dX11_addStudent_35 : decode cX11_addStudent 35 = .ok (.invokespecial 31, 3) := by decide +kernel
theorem dX11_addStudent_38 : decode cX11_addStudent 38 = .ok (.invokevirtual 84, 3) := by decide +kernel
theorem dX11_addStudent_41 : decode cX11_addStudent 41 = .ok (.pop, 1) := by decide +kernel
theorem dX11_addStudent_42 : decode cX11_addStudent 42 = .ok (.aload_n 0, 1) := by decide +kernel
theorem dX11_addStudent_43 : decode cX11_addStudent 43 = .ok (.getfield 16, 3) := by decide +kernel
theorem dX11_addStudent_46 : decode cX11_addStudent 46 = .ok (.invokevirtual 70, 3) := by decide +kernel
theorem dX11_addStudent_49 : decode cX11_addStudent 49 = .ok (.iconst 1, 1) := by decide +kernel
theorem dX11_addStudent_50 : decode cX11_addStudent 50 = .ok (.isub, 1) := by decide +kernel
theorem dX11_addStudent_51 : decode cX11_addStudent 51 = .ok (.ireturn, 1) := by decide +kernel
theorem dX11_changeMajor_0 : decode cX11_changeMajor 0 = .ok (.aload_n 0, 1) := by decide +kernel
theorem dX11_changeMajor_1 : decode cX11_changeMajor 1 = .ok (.iload_n 1, 1) := by decide +kernel
theorem dX11_changeMajor_2 : decode cX11_changeMajor 2 = .ok (.invokevirtual 93, 3) := by decide +kernel
theorem dX11_changeMajor_5 : decode cX11_changeMajor 5 = .ok (.astore_n 3, 1) := by decide +kernel
theorem dX11_changeMajor_6 : decode cX11_changeMajor 6 = .ok (.iload_n 2, 1) := by decide +kernel
theorem dX11_changeMajor_7 : decode cX11_changeMajor 7 = .ok (.invokestatic 88, 3) := by decide +kernel
theorem dX11_changeMajor_10 : decode cX11_changeMajor 10 = .ok (.aload_n 3, 1) := by decide +kernel
theorem dX11_changeMajor_11 : decode cX11_changeMajor 11 = .ok (.getfield 97, 3) := by decide +kernel
theorem dX11_changeMajor_14 : decode cX11_changeMajor 14 = .ok (.istore 4, 2) := by decide +kernel
theorem dX11_changeMajor_16 : decode cX11_changeMajor 16 = .ok (.aload_n 3, 1) := by decide +kernel
theorem dX11_changeMajor_17 : decode cX11_changeMajor 17 = .ok (.iload_n 2, 1) := by decide +kernel
theorem dX11_changeMajor_18 : decode cX11_changeMajor 18 = .ok (.putfield 97, 3) := by decide +kernel
theorem dX11_changeMajor_21 : decode cX11_changeMajor 21 = .ok (.aload_n 0, 1) := by decide +kernel
theorem dX11_changeMajor_22 : decode cX11_changeMajor 22 = .ok (.invokevirtual 101, 3) := by decide +kernel
theorem dX11_changeMajor_25 : decode cX11_changeMajor 25 = .ok (.iload 4, 2) := by decide +kernel
theorem dX11_changeMajor_27 : decode cX11_changeMajor 27 = .ok (.ireturn, 1) := by decide +kernel
theorem dX11_reserve_0 : decode cX11_reserve 0 = .ok (.aload_n 0, 1) := by decide +kernel
theorem dX11_reserve_1 : decode cX11_reserve 1 = .ok (.iload_n 1, 1) := by decide +kernel
theorem dX11_reserve_2 : decode cX11_reserve 2 = .ok (.invokevirtual 104, 3) := by decide +kernel
theorem dX11_reserve_5 : decode cX11_reserve 5 = .ok (.astore 4, 2) := by decide +kernel
theorem dX11_reserve_7 : decode cX11_reserve 7 = .ok (.iload_n 2, 1) := by decide +kernel
theorem dX11_reserve_8 : decode cX11_reserve 8 = .ok (.invokestatic 88, 3) := by decide +kernel
theorem dX11_reserve_11 : decode cX11_reserve 11 = .ok (.iload_n 3, 1) := by decide +kernel
theorem dX11_reserve_12 : decode cX11_reserve 12 = .ok (.ifCond .ge 13, 3) := by decide +kernel
theorem dX11_reserve_15 : decode cX11_reserve 15 = .ok (.new 63, 3) := by decide +kernel
theorem dX11_reserve_18 : decode cX11_reserve 18 = .ok (.dup, 1) := by decide +kernel
theorem dX11_reserve_19 : decode cX11_reserve 19 = .ok (.ldc 108, 2) := by decide +kernel
theorem dX11_reserve_21 : decode cX11_reserve 21 = .ok (.invokespecial 67, 3) := by decide +kernel
theorem dX11_reserve_24 : decode cX11_reserve 24 = .ok (.athrow, 1) := by decide +kernel
theorem dX11_reserve_25 : decode cX11_reserve 25 = .ok (.aload 4, 2) := by decide +kernel
theorem dX11_reserve_27 : decode cX11_reserve 27 = .ok (.getfield 110, 3) := by decide +kernel
theorem dX11_reserve_30 : decode cX11_reserve 30 = .ok (.iload_n 2, 1) := by decide +kernel
theorem dX11_reserve_31 : decode cX11_reserve 31 = .ok (.iaload, 1) := by decide +kernel
theorem dX11_reserve_32 : decode cX11_reserve 32 = .ok (.istore 5, 2) := by decide +kernel
theorem dX11_reserve_34 : decode cX11_reserve 34 = .ok (.iload_n 3, 1) := by decide +kernel
theorem dX11_reserve_35 : decode cX11_reserve 35 = .ok (.aload 4, 2) := by decide +kernel
theorem dX11_reserve_37 : decode cX11_reserve 37 = .ok (.getfield 113, 3) := by decide +kernel
theorem dX11_reserve_40 : decode cX11_reserve 40 = .ok (.aload 4, 2) := by decide +kernel
theorem dX11_reserve_42 : decode cX11_reserve 42 = .ok (.invokevirtual 116, 3) := by decide +kernel
theorem dX11_reserve_45 : decode cX11_reserve 45 = .ok (.iload 5, 2) := by decide +kernel
theorem dX11_reserve_47 : decode cX11_reserve 47 = .ok (.isub, 1) := by decide +kernel
theorem dX11_reserve_48 : decode cX11_reserve 48 = .ok (.isub, 1) := by decide +kernel
theorem dX11_reserve_49 : decode cX11_reserve 49 = .ok (.if_icmp .le 13, 3) := by decide +kernel
theorem dX11_reserve_52 : decode cX11_reserve 52 = .ok (.new 74, 3) := by decide +kernel
theorem dX11_reserve_55 : decode cX11_reserve 55 = .ok (.dup, 1) := by decide +kernel
theorem dX11_reserve_56 : decode cX11_reserve 56 = .ok (.ldc 119, 2) := by decide +kernel
theorem dX11_reserve_58 : decode cX11_reserve 58 = .ok (.invokespecial 78, 3) := by decide +kernel
theorem dX11_reserve_61 : decode cX11_reserve 61 = .ok (.athrow, 1) := by decide +kernel
theorem dX11_reserve_62 : decode cX11_reserve 62 = .ok (.aload 4, 2) := by decide +kernel
theorem dX11_reserve_64 : decode cX11_reserve 64 = .ok (.getfield 110, 3) := by decide +kernel
theorem dX11_reserve_67 : decode cX11_reserve 67 = .ok (.iload_n 2, 1) := by decide +kernel
theorem dX11_reserve_68 : decode cX11_reserve 68 = .ok (.iload_n 3, 1) := by decide +kernel
theorem dX11_reserve_69 : decode cX11_reserve 69 = .ok (.iastore, 1) := by decide +kernel
theorem dX11_reserve_70 : decode cX11_reserve 70 = .ok (.aload_n 0, 1) := by decide +kernel
theorem dX11_reserve_71 : decode cX11_reserve 71 = .ok (.invokevirtual 101, 3) := by decide +kernel
theorem dX11_reserve_74 : decode cX11_reserve 74 = .ok (.iload 5, 2) := by decide +kernel
theorem dX11_reserve_76 : decode cX11_reserve 76 = .ok (.ireturn, 1) := by decide +kernel
theorem dX11_markFormula_0 : decode cX11_markFormula 0 = .ok (.aload_n 0, 1) := by decide +kernel
theorem dX11_markFormula_1 : decode cX11_markFormula 1 = .ok (.iload_n 1, 1) := by decide +kernel
theorem dX11_markFormula_2 : decode cX11_markFormula 2 = .ok (.invokevirtual 104, 3) := by decide +kernel
theorem dX11_markFormula_5 : decode cX11_markFormula 5 = .ok (.pop, 1) := by decide +kernel
theorem dX11_markFormula_6 : decode cX11_markFormula 6 = .ok (.iload_n 2, 1) := by decide +kernel
theorem dX11_markFormula_7 : decode cX11_markFormula 7 = .ok (.invokestatic 121, 3) := by decide +kernel
theorem dX11_markFormula_10 : decode cX11_markFormula 10 = .ok (.aload_n 0, 1) := by decide +kernel
theorem dX11_markFormula_11 : decode cX11_markFormula 11 = .ok (.iconst 0, 1) := by decide +kernel
theorem dX11_markFormula_12 : decode cX11_markFormula 12 = .ok (.invokevirtual 124, 3) := by decide +kernel
theorem dX11_markFormula_15 : decode cX11_markFormula 15 = .ok (.aload_n 0, 1) := by decide +kernel
theorem dX11_markFormula_16 : decode cX11_markFormula 16 = .ok (.new 127, 3) := by decide +kernel
theorem dX11_markFormula_19 : decode cX11_markFormula 19 = .ok (.dup, 1) := by decide +kernel
theorem dX11_markFormula_20 : decode cX11_markFormula 20 = .ok (.iload_n 1, 1) := by decide +kernel
theorem dX11_markFormula_21 : decode cX11_markFormula 21 = .ok (.iload_n 2, 1) := by decide +kernel
theorem dX11_markFormula_22 : decode cX11_markFormula 22 = .ok (.invokespecial 129, 3) := by decide +kernel
theorem dX11_markFormula_25 : decode cX11_markFormula 25 = .ok (.invokevirtual 132, 3) := by decide +kernel
theorem dX11_markFormula_28 : decode cX11_markFormula 28 = .ok (.ireturn, 1) := by decide +kernel
theorem dX11_togetherFormula_0 : decode cX11_togetherFormula 0 = .ok (.aload_n 0, 1) := by decide +kernel
theorem dX11_togetherFormula_1 : decode cX11_togetherFormula 1 = .ok (.iload_n 1, 1) := by decide +kernel
theorem dX11_togetherFormula_2 : decode cX11_togetherFormula 2 = .ok (.invokevirtual 104, 3) := by decide +kernel
theorem dX11_togetherFormula_5 : decode cX11_togetherFormula 5 = .ok (.pop, 1) := by decide +kernel
theorem dX11_togetherFormula_6 : decode cX11_togetherFormula 6 = .ok (.aload_n 0, 1) := by decide +kernel
theorem dX11_togetherFormula_7 : decode cX11_togetherFormula 7 = .ok (.iconst 0, 1) := by decide +kernel
theorem dX11_togetherFormula_8 : decode cX11_togetherFormula 8 = .ok (.invokevirtual 124, 3) := by decide +kernel
theorem dX11_togetherFormula_11 : decode cX11_togetherFormula 11 = .ok (.aload_n 0, 1) := by decide +kernel
theorem dX11_togetherFormula_12 : decode cX11_togetherFormula 12 = .ok (.new 136, 3) := by decide +kernel
theorem dX11_togetherFormula_15 : decode cX11_togetherFormula 15 = .ok (.dup, 1) := by decide +kernel
theorem dX11_togetherFormula_16 : decode cX11_togetherFormula 16 = .ok (.iload_n 1, 1) := by decide +kernel
theorem dX11_togetherFormula_17 : decode cX11_togetherFormula 17 = .ok (.invokespecial 138, 3) := by decide +kernel
theorem dX11_togetherFormula_20 : decode cX11_togetherFormula 20 = .ok (.invokevirtual 132, 3) := by decide +kernel
theorem dX11_togetherFormula_23 : decode cX11_togetherFormula 23 = .ok (.ireturn, 1) := by decide +kernel
theorem dX11_creditsFormula_0 : decode cX11_creditsFormula 0 = .ok (.iload_n 1, 1) := by decide +kernel
theorem dX11_creditsFormula_1 : decode cX11_creditsFormula 1 = .ok (.iconst 0, 1) := by decide +kernel
theorem dX11_creditsFormula_2 : decode cX11_creditsFormula 2 = .ok (.bipush 120, 2) := by decide +kernel
theorem dX11_creditsFormula_4 : decode cX11_creditsFormula 4 = .ok (.invokestatic 59, 3) := by decide +kernel
theorem dX11_creditsFormula_7 : decode cX11_creditsFormula 7 = .ok (.ifCond .ne 13, 3) := by decide +kernel
theorem dX11_creditsFormula_10 : decode cX11_creditsFormula 10 = .ok (.new 63, 3) := by decide +kernel
theorem dX11_creditsFormula_13 : decode cX11_creditsFormula 13 = .ok (.dup, 1) := by decide +kernel
theorem dX11_creditsFormula_14 : decode cX11_creditsFormula 14 = .ok (.ldc 139, 2) := by decide +kernel
theorem dX11_creditsFormula_16 : decode cX11_creditsFormula 16 = .ok (.invokespecial 67, 3) := by decide +kernel
theorem dX11_creditsFormula_19 : decode cX11_creditsFormula 19 = .ok (.athrow, 1) := by decide +kernel
theorem dX11_creditsFormula_20 : decode cX11_creditsFormula 20 = .ok (.aload_n 0, 1) := by decide +kernel
theorem dX11_creditsFormula_21 : decode cX11_creditsFormula 21 = .ok (.iconst 0, 1) := by decide +kernel
theorem dX11_creditsFormula_22 : decode cX11_creditsFormula 22 = .ok (.invokevirtual 124, 3) := by decide +kernel
theorem dX11_creditsFormula_25 : decode cX11_creditsFormula 25 = .ok (.aload_n 0, 1) := by decide +kernel
theorem dX11_creditsFormula_26 : decode cX11_creditsFormula 26 = .ok (.new 141, 3) := by decide +kernel
theorem dX11_creditsFormula_29 : decode cX11_creditsFormula 29 = .ok (.dup, 1) := by decide +kernel
theorem dX11_creditsFormula_30 : decode cX11_creditsFormula 30 = .ok (.iload_n 1, 1) := by decide +kernel
theorem dX11_creditsFormula_31 : decode cX11_creditsFormula 31 = .ok (.invokespecial 143, 3) := by decide +kernel
theorem dX11_creditsFormula_34 : decode cX11_creditsFormula 34 = .ok (.invokevirtual 132, 3) := by decide +kernel
theorem dX11_creditsFormula_37 : decode cX11_creditsFormula 37 = .ok (.ireturn, 1) := by decide +kernel
theorem dX11_allFormula_0 : decode cX11_allFormula 0 = .ok (.iconst 1, 1) := by decide +kernel
theorem dX11_allFormula_1 : decode cX11_allFormula 1 = .ok (.aload_n 0, 1) := by decide +kernel
theorem dX11_allFormula_2 : decode cX11_allFormula 2 = .ok (.iload_n 1, 1) := by decide +kernel
theorem dX11_allFormula_3 : decode cX11_allFormula 3 = .ok (.invokevirtual 144, 3) := by decide +kernel
theorem dX11_allFormula_6 : decode cX11_allFormula 6 = .ok (.getfield 148, 3) := by decide +kernel
theorem dX11_allFormula_9 : decode cX11_allFormula 9 = .ok (.aload_n 0, 1) := by decide +kernel
theorem dX11_allFormula_10 : decode cX11_allFormula 10 = .ok (.iload_n 2, 1) := by decide +kernel
theorem dX11_allFormula_11 : decode cX11_allFormula 11 = .ok (.invokevirtual 144, 3) := by decide +kernel
theorem dX11_allFormula_14 : decode cX11_allFormula 14 = .ok (.getfield 148, 3) := by decide +kernel
theorem dX11_allFormula_17 : decode cX11_allFormula 17 = .ok (.invokestatic 153, 3) := by decide +kernel
theorem dX11_allFormula_20 : decode cX11_allFormula 20 = .ok (.iadd, 1) := by decide +kernel
theorem dX11_allFormula_21 : decode cX11_allFormula 21 = .ok (.istore_n 3, 1) := by decide +kernel
theorem dX11_allFormula_22 : decode cX11_allFormula 22 = .ok (.aload_n 0, 1) := by decide +kernel
theorem dX11_allFormula_23 : decode cX11_allFormula 23 = .ok (.iload_n 3, 1) := by decide +kernel
theorem dX11_allFormula_24 : decode cX11_allFormula 24 = .ok (.invokevirtual 124, 3) := by decide +kernel
theorem dX11_allFormula_27 : decode cX11_allFormula 27 = .ok (.aload_n 0, 1) := by decide +kernel
theorem dX11_allFormula_28 : decode cX11_allFormula 28 = .ok (.new 159, 3) := by decide +kernel
theorem dX11_allFormula_31 : decode cX11_allFormula 31 = .ok (.dup, 1) := by decide +kernel
theorem dX11_allFormula_32 : decode cX11_allFormula 32 = .ok (.iload_n 3, 1) := by decide +kernel
theorem dX11_allFormula_33 : decode cX11_allFormula 33 = .ok (.iconst 2, 1) := by decide +kernel
theorem dX11_allFormula_34 : decode cX11_allFormula 34 = .ok (.iload_n 1, 1) := by decide +kernel
theorem dX11_allFormula_35 : decode cX11_allFormula 35 = .ok (.iload_n 2, 1) := by decide +kernel
theorem dX11_allFormula_36 : decode cX11_allFormula 36 = .ok (.iconst (-1), 1) := by decide +kernel
theorem dX11_allFormula_37 : decode cX11_allFormula 37 = .ok (.invokespecial 161, 3) := by decide +kernel
theorem dX11_allFormula_40 : decode cX11_allFormula 40 = .ok (.invokevirtual 132, 3) := by decide +kernel
theorem dX11_allFormula_43 : decode cX11_allFormula 43 = .ok (.ireturn, 1) := by decide +kernel
theorem dX11_anyFormula_0 : decode cX11_anyFormula 0 = .ok (.iconst 1, 1) := by decide +kernel
theorem dX11_anyFormula_1 : decode cX11_anyFormula 1 = .ok (.aload_n 0, 1) := by decide +kernel
theorem dX11_anyFormula_2 : decode cX11_anyFormula 2 = .ok (.iload_n 1, 1) := by decide +kernel
theorem dX11_anyFormula_3 : decode cX11_anyFormula 3 = .ok (.invokevirtual 144, 3) := by decide +kernel
theorem dX11_anyFormula_6 : decode cX11_anyFormula 6 = .ok (.getfield 148, 3) := by decide +kernel
theorem dX11_anyFormula_9 : decode cX11_anyFormula 9 = .ok (.aload_n 0, 1) := by decide +kernel
theorem dX11_anyFormula_10 : decode cX11_anyFormula 10 = .ok (.iload_n 2, 1) := by decide +kernel
theorem dX11_anyFormula_11 : decode cX11_anyFormula 11 = .ok (.invokevirtual 144, 3) := by decide +kernel
theorem dX11_anyFormula_14 : decode cX11_anyFormula 14 = .ok (.getfield 148, 3) := by decide +kernel
theorem dX11_anyFormula_17 : decode cX11_anyFormula 17 = .ok (.invokestatic 153, 3) := by decide +kernel
theorem dX11_anyFormula_20 : decode cX11_anyFormula 20 = .ok (.iadd, 1) := by decide +kernel
theorem dX11_anyFormula_21 : decode cX11_anyFormula 21 = .ok (.istore_n 3, 1) := by decide +kernel
theorem dX11_anyFormula_22 : decode cX11_anyFormula 22 = .ok (.aload_n 0, 1) := by decide +kernel
theorem dX11_anyFormula_23 : decode cX11_anyFormula 23 = .ok (.iload_n 3, 1) := by decide +kernel
theorem dX11_anyFormula_24 : decode cX11_anyFormula 24 = .ok (.invokevirtual 124, 3) := by decide +kernel
theorem dX11_anyFormula_27 : decode cX11_anyFormula 27 = .ok (.aload_n 0, 1) := by decide +kernel
theorem dX11_anyFormula_28 : decode cX11_anyFormula 28 = .ok (.new 159, 3) := by decide +kernel
theorem dX11_anyFormula_31 : decode cX11_anyFormula 31 = .ok (.dup, 1) := by decide +kernel
theorem dX11_anyFormula_32 : decode cX11_anyFormula 32 = .ok (.iload_n 3, 1) := by decide +kernel
theorem dX11_anyFormula_33 : decode cX11_anyFormula 33 = .ok (.iconst 1, 1) := by decide +kernel
theorem dX11_anyFormula_34 : decode cX11_anyFormula 34 = .ok (.iload_n 1, 1) := by decide +kernel
theorem dX11_anyFormula_35 : decode cX11_anyFormula 35 = .ok (.iload_n 2, 1) := by decide +kernel
theorem dX11_anyFormula_36 : decode cX11_anyFormula 36 = .ok (.iconst (-1), 1) := by decide +kernel
theorem dX11_anyFormula_37 : decode cX11_anyFormula 37 = .ok (.invokespecial 161, 3) := by decide +kernel
theorem dX11_anyFormula_40 : decode cX11_anyFormula 40 = .ok (.invokevirtual 132, 3) := by decide +kernel
theorem dX11_anyFormula_43 : decode cX11_anyFormula 43 = .ok (.ireturn, 1) := by decide +kernel
theorem dX11_twoFormula_0 : decode cX11_twoFormula 0 = .ok (.aload_n 0, 1) := by decide +kernel
theorem dX11_twoFormula_1 : decode cX11_twoFormula 1 = .ok (.iload_n 1, 1) := by decide +kernel
theorem dX11_twoFormula_2 : decode cX11_twoFormula 2 = .ok (.invokevirtual 144, 3) := by decide +kernel
theorem dX11_twoFormula_5 : decode cX11_twoFormula 5 = .ok (.getfield 148, 3) := by decide +kernel
theorem dX11_twoFormula_8 : decode cX11_twoFormula 8 = .ok (.aload_n 0, 1) := by decide +kernel
theorem dX11_twoFormula_9 : decode cX11_twoFormula 9 = .ok (.iload_n 2, 1) := by decide +kernel
theorem dX11_twoFormula_10 : decode cX11_twoFormula 10 = .ok (.invokevirtual 144, 3) := by decide +kernel
theorem dX11_twoFormula_13 : decode cX11_twoFormula 13 = .ok (.getfield 148, 3) := by decide +kernel
theorem dX11_twoFormula_16 : decode cX11_twoFormula 16 = .ok (.invokestatic 153, 3) := by decide +kernel
theorem dX11_twoFormula_19 : decode cX11_twoFormula 19 = .ok (.istore 4, 2) := by decide +kernel
theorem dX11_twoFormula_21 : decode cX11_twoFormula 21 = .ok (.iconst 1, 1) := by decide +kernel
theorem dX11_twoFormula_22 : decode cX11_twoFormula 22 = .ok (.iload 4, 2) := by decide +kernel
theorem dX11_twoFormula_24 : decode cX11_twoFormula 24 = .ok (.aload_n 0, 1) := by decide +kernel
theorem dX11_twoFormula_25 : decode cX11_twoFormula 25 = .ok (.iload_n 3, 1) := by decide +kernel
theorem dX11_twoFormula_26 : decode cX11_twoFormula 26 = .ok (.invokevirtual 144, 3) := by decide +kernel
theorem dX11_twoFormula_29 : decode cX11_twoFormula 29 = .ok (.getfield 148, 3) := by decide +kernel
theorem dX11_twoFormula_32 : decode cX11_twoFormula 32 = .ok (.invokestatic 153, 3) := by decide +kernel
theorem dX11_twoFormula_35 : decode cX11_twoFormula 35 = .ok (.iadd, 1) := by decide +kernel
theorem dX11_twoFormula_36 : decode cX11_twoFormula 36 = .ok (.istore 5, 2) := by decide +kernel
theorem dX11_twoFormula_38 : decode cX11_twoFormula 38 = .ok (.aload_n 0, 1) := by decide +kernel
theorem dX11_twoFormula_39 : decode cX11_twoFormula 39 = .ok (.iload 5, 2) := by decide +kernel
theorem dX11_twoFormula_41 : decode cX11_twoFormula 41 = .ok (.invokevirtual 124, 3) := by decide +kernel
theorem dX11_twoFormula_44 : decode cX11_twoFormula 44 = .ok (.aload_n 0, 1) := by decide +kernel
theorem dX11_twoFormula_45 : decode cX11_twoFormula 45 = .ok (.new 159, 3) := by decide +kernel
theorem dX11_twoFormula_48 : decode cX11_twoFormula 48 = .ok (.dup, 1) := by decide +kernel
theorem dX11_twoFormula_49 : decode cX11_twoFormula 49 = .ok (.iload 5, 2) := by decide +kernel
theorem dX11_twoFormula_51 : decode cX11_twoFormula 51 = .ok (.iconst 2, 1) := by decide +kernel
theorem dX11_twoFormula_52 : decode cX11_twoFormula 52 = .ok (.iload_n 1, 1) := by decide +kernel
theorem dX11_twoFormula_53 : decode cX11_twoFormula 53 = .ok (.iload_n 2, 1) := by decide +kernel
theorem dX11_twoFormula_54 : decode cX11_twoFormula 54 = .ok (.iload_n 3, 1) := by decide +kernel
theorem dX11_twoFormula_55 : decode cX11_twoFormula 55 = .ok (.invokespecial 161, 3) := by decide +kernel
theorem dX11_twoFormula_58 : decode cX11_twoFormula 58 = .ok (.invokevirtual 132, 3) := by decide +kernel
theorem dX11_twoFormula_61 : decode cX11_twoFormula 61 = .ok (.ireturn, 1) := by decide +kernel
theorem dX11_noneFormula_0 : decode cX11_noneFormula 0 = .ok (.iconst 1, 1) := by decide +kernel
theorem dX11_noneFormula_1 : decode cX11_noneFormula 1 = .ok (.aload_n 0, 1) := by decide +kernel
theorem dX11_noneFormula_2 : decode cX11_noneFormula 2 = .ok (.iload_n 1, 1) := by decide +kernel
theorem dX11_noneFormula_3 : decode cX11_noneFormula 3 = .ok (.invokevirtual 144, 3) := by decide +kernel
theorem dX11_noneFormula_6 : decode cX11_noneFormula 6 = .ok (.getfield 148, 3) := by decide +kernel
theorem dX11_noneFormula_9 : decode cX11_noneFormula 9 = .ok (.iadd, 1) := by decide +kernel
theorem dX11_noneFormula_10 : decode cX11_noneFormula 10 = .ok (.istore_n 2, 1) := by decide +kernel
theorem dX11_noneFormula_11 : decode cX11_noneFormula 11 = .ok (.aload_n 0, 1) := by decide +kernel
theorem dX11_noneFormula_12 : decode cX11_noneFormula 12 = .ok (.iload_n 2, 1) := by decide +kernel
theorem dX11_noneFormula_13 : decode cX11_noneFormula 13 = .ok (.invokevirtual 124, 3) := by decide +kernel
theorem dX11_noneFormula_16 : decode cX11_noneFormula 16 = .ok (.aload_n 0, 1) := by decide +kernel
theorem dX11_noneFormula_17 : decode cX11_noneFormula 17 = .ok (.new 164, 3) := by decide +kernel
theorem dX11_noneFormula_20 : decode cX11_noneFormula 20 = .ok (.dup, 1) := by decide +kernel
theorem dX11_noneFormula_21 : decode cX11_noneFormula 21 = .ok (.iload_n 2, 1) := by decide +kernel
theorem dX11_noneFormula_22 : decode cX11_noneFormula 22 = .ok (.iload_n 1, 1) := by decide +kernel
theorem dX11_noneFormula_23 : decode cX11_noneFormula 23 = .ok (.invokespecial 166, 3) := by decide +kernel
theorem dX11_noneFormula_26 : decode cX11_noneFormula 26 = .ok (.invokevirtual 132, 3) := by decide +kernel
theorem dX11_noneFormula_29 : decode cX11_noneFormula 29 = .ok (.ireturn, 1) := by decide +kernel
theorem dX11_holds_0 : decode cX11_holds 0 = .ok (.aload_n 0, 1) := by decide +kernel
theorem dX11_holds_1 : decode cX11_holds 1 = .ok (.iload_n 1, 1) := by decide +kernel
theorem dX11_holds_2 : decode cX11_holds 2 = .ok (.invokevirtual 93, 3) := by decide +kernel
theorem dX11_holds_5 : decode cX11_holds 5 = .ok (.astore_n 3, 1) := by decide +kernel
theorem dX11_holds_6 : decode cX11_holds 6 = .ok (.aload_n 0, 1) := by decide +kernel
theorem dX11_holds_7 : decode cX11_holds 7 = .ok (.iload_n 2, 1) := by decide +kernel
theorem dX11_holds_8 : decode cX11_holds 8 = .ok (.invokevirtual 144, 3) := by decide +kernel
theorem dX11_holds_11 : decode cX11_holds 11 = .ok (.pop, 1) := by decide +kernel
theorem dX11_holds_12 : decode cX11_holds 12 = .ok (.iload_n 2, 1) := by decide +kernel
theorem dX11_holds_13 : decode cX11_holds 13 = .ok (.aload_n 0, 1) := by decide +kernel
theorem dX11_holds_14 : decode cX11_holds 14 = .ok (.aload_n 3, 1) := by decide +kernel
theorem dX11_holds_15 : decode cX11_holds 15 = .ok (.invokevirtual 167, 3) := by decide +kernel
theorem dX11_holds_18 : decode cX11_holds 18 = .ok (.invokestatic 171, 3) := by decide +kernel
theorem dX11_holds_21 : decode cX11_holds 21 = .ok (.ireturn, 1) := by decide +kernel
theorem dX11_require_0 : decode cX11_require 0 = .ok (.aload_n 0, 1) := by decide +kernel
theorem dX11_require_1 : decode cX11_require 1 = .ok (.iload_n 1, 1) := by decide +kernel
theorem dX11_require_2 : decode cX11_require 2 = .ok (.invokevirtual 104, 3) := by decide +kernel
theorem dX11_require_5 : decode cX11_require 5 = .ok (.astore_n 3, 1) := by decide +kernel
theorem dX11_require_6 : decode cX11_require 6 = .ok (.aload_n 0, 1) := by decide +kernel
theorem dX11_require_7 : decode cX11_require 7 = .ok (.iload_n 2, 1) := by decide +kernel
theorem dX11_require_8 : decode cX11_require 8 = .ok (.invokevirtual 144, 3) := by decide +kernel
theorem dX11_require_11 : decode cX11_require 11 = .ok (.pop, 1) := by decide +kernel
theorem dX11_require_12 : decode cX11_require 12 = .ok (.aload_n 3, 1) := by decide +kernel
theorem dX11_require_13 : decode cX11_require 13 = .ok (.getfield 175, 3) := by decide +kernel
theorem dX11_require_16 : decode cX11_require 16 = .ok (.iconst (-1), 1) := by decide +kernel
theorem dX11_require_17 : decode cX11_require 17 = .ok (.if_icmp .eq 7, 3) := by decide +kernel
theorem dX11_require_20 : decode cX11_require 20 = .ok (.iconst 1, 1) := by decide +kernel
theorem dX11_require_21 : decode cX11_require 21 = .ok (.goto 4, 3) := by decide +kernel
theorem dX11_require_24 : decode cX11_require 24 = .ok (.iconst 0, 1) := by decide +kernel
theorem dX11_require_25 : decode cX11_require 25 = .ok (.istore 4, 2) := by decide +kernel
theorem dX11_require_27 : decode cX11_require 27 = .ok (.aload_n 3, 1) := by decide +kernel
theorem dX11_require_28 : decode cX11_require 28 = .ok (.iload_n 2, 1) := by decide +kernel
theorem dX11_require_29 : decode cX11_require 29 = .ok (.putfield 175, 3) := by decide +kernel
theorem dX11_require_32 : decode cX11_require 32 = .ok (.aload_n 0, 1) := by decide +kernel
theorem dX11_require_33 : decode cX11_require 33 = .ok (.invokevirtual 101, 3) := by decide +kernel
theorem dX11_require_36 : decode cX11_require 36 = .ok (.iload 4, 2) := by decide +kernel
theorem dX11_require_38 : decode cX11_require 38 = .ok (.ireturn, 1) := by decide +kernel
theorem dX11_lift_0 : decode cX11_lift 0 = .ok (.aload_n 0, 1) := by decide +kernel
theorem dX11_lift_1 : decode cX11_lift 1 = .ok (.iload_n 1, 1) := by decide +kernel
theorem dX11_lift_2 : decode cX11_lift 2 = .ok (.invokevirtual 104, 3) := by decide +kernel
theorem dX11_lift_5 : decode cX11_lift 5 = .ok (.astore_n 2, 1) := by decide +kernel
theorem dX11_lift_6 : decode cX11_lift 6 = .ok (.aload_n 2, 1) := by decide +kernel
theorem dX11_lift_7 : decode cX11_lift 7 = .ok (.getfield 175, 3) := by decide +kernel
theorem dX11_lift_10 : decode cX11_lift 10 = .ok (.iconst (-1), 1) := by decide +kernel
theorem dX11_lift_11 : decode cX11_lift 11 = .ok (.if_icmp .eq 7, 3) := by decide +kernel
theorem dX11_lift_14 : decode cX11_lift 14 = .ok (.iconst 1, 1) := by decide +kernel
theorem dX11_lift_15 : decode cX11_lift 15 = .ok (.goto 4, 3) := by decide +kernel
theorem dX11_lift_18 : decode cX11_lift 18 = .ok (.iconst 0, 1) := by decide +kernel
theorem dX11_lift_19 : decode cX11_lift 19 = .ok (.istore_n 3, 1) := by decide +kernel
theorem dX11_lift_20 : decode cX11_lift 20 = .ok (.aload_n 2, 1) := by decide +kernel
theorem dX11_lift_21 : decode cX11_lift 21 = .ok (.iconst (-1), 1) := by decide +kernel
theorem dX11_lift_22 : decode cX11_lift 22 = .ok (.putfield 175, 3) := by decide +kernel
theorem dX11_lift_25 : decode cX11_lift 25 = .ok (.aload_n 0, 1) := by decide +kernel
theorem dX11_lift_26 : decode cX11_lift 26 = .ok (.invokevirtual 101, 3) := by decide +kernel
theorem dX11_lift_29 : decode cX11_lift 29 = .ok (.iload_n 3, 1) := by decide +kernel
theorem dX11_lift_30 : decode cX11_lift 30 = .ok (.ireturn, 1) := by decide +kernel
theorem dX11_pass_0 : decode cX11_pass 0 = .ok (.iload_n 1, 1) := by decide +kernel
theorem dX11_pass_1 : decode cX11_pass 1 = .ok (.iconst 1, 1) := by decide +kernel
theorem dX11_pass_2 : decode cX11_pass 2 = .ok (.if_icmp .ge 13, 3) := by decide +kernel
theorem dX11_pass_5 : decode cX11_pass 5 = .ok (.new 63, 3) := by decide +kernel
theorem dX11_pass_8 : decode cX11_pass 8 = .ok (.dup, 1) := by decide +kernel
theorem dX11_pass_9 : decode cX11_pass 9 = .ok (.ldc 178, 2) := by decide +kernel
theorem dX11_pass_11 : decode cX11_pass 11 = .ok (.invokespecial 67, 3) := by decide +kernel
theorem dX11_pass_14 : decode cX11_pass 14 = .ok (.athrow, 1) := by decide +kernel
theorem dX11_pass_15 : decode cX11_pass 15 = .ok (.iload_n 1, 1) := by decide +kernel
theorem dX11_pass_16 : decode cX11_pass 16 = .ok (.bipush 30, 2) := by decide +kernel
theorem dX11_pass_18 : decode cX11_pass 18 = .ok (.aload_n 0, 1) := by decide +kernel
theorem dX11_pass_19 : decode cX11_pass 19 = .ok (.getfield 180, 3) := by decide +kernel
theorem dX11_pass_22 : decode cX11_pass 22 = .ok (.isub, 1) := by decide +kernel
theorem dX11_pass_23 : decode cX11_pass 23 = .ok (.if_icmp .le 13, 3) := by decide +kernel
theorem dX11_pass_26 : decode cX11_pass 26 = .ok (.new 74, 3) := by decide +kernel
theorem dX11_pass_29 : decode cX11_pass 29 = .ok (.dup, 1) := by decide +kernel
theorem dX11_pass_30 : decode cX11_pass 30 = .ok (.ldc 183, 2) := by decide +kernel
theorem dX11_pass_32 : decode cX11_pass 32 = .ok (.invokespecial 78, 3) := by decide +kernel
theorem dX11_pass_35 : decode cX11_pass 35 = .ok (.athrow, 1) := by decide +kernel
theorem dX11_pass_36 : decode cX11_pass 36 = .ok (.iconst 0, 1) := by decide +kernel
theorem dX11_pass_37 : decode cX11_pass 37 = .ok (.istore_n 2, 1) := by decide +kernel
theorem dX11_pass_38 : decode cX11_pass 38 = .ok (.iload_n 2, 1) := by decide +kernel
theorem dX11_pass_39 : decode cX11_pass 39 = .ok (.iload_n 1, 1) := by decide +kernel
theorem dX11_pass_40 : decode cX11_pass 40 = .ok (.if_icmp .ge 36, 3) := by decide +kernel
theorem dX11_pass_43 : decode cX11_pass 43 = .ok (.aload_n 0, 1) := by decide +kernel
theorem dX11_pass_44 : decode cX11_pass 44 = .ok (.dup, 1) := by decide +kernel
theorem dX11_pass_45 : decode cX11_pass 45 = .ok (.getfield 180, 3) := by decide +kernel
theorem dX11_pass_48 : decode cX11_pass 48 = .ok (.iconst 1, 1) := by decide +kernel
theorem dX11_pass_49 : decode cX11_pass 49 = .ok (.iadd, 1) := by decide +kernel
theorem dX11_pass_50 : decode cX11_pass 50 = .ok (.putfield 180, 3) := by decide +kernel
theorem dX11_pass_53 : decode cX11_pass 53 = .ok (.aload_n 0, 1) := by decide +kernel
theorem dX11_pass_54 : decode cX11_pass 54 = .ok (.getfield 180, 3) := by decide +kernel
theorem dX11_pass_57 : decode cX11_pass 57 = .ok (.bipush 6, 2) := by decide +kernel
theorem dX11_pass_59 : decode cX11_pass 59 = .ok (.if_icmp .ne 7, 3) := by decide +kernel
theorem dX11_pass_62 : decode cX11_pass 62 = .ok (.aload_n 0, 1) := by decide +kernel
theorem dX11_pass_63 : decode cX11_pass 63 = .ok (.invokevirtual 185, 3) := by decide +kernel
theorem dX11_pass_66 : decode cX11_pass 66 = .ok (.aload_n 0, 1) := by decide +kernel
theorem dX11_pass_67 : decode cX11_pass 67 = .ok (.invokevirtual 101, 3) := by decide +kernel
theorem dX11_pass_70 : decode cX11_pass 70 = .ok (.iinc 2 1, 3) := by decide +kernel
theorem dX11_pass_73 : decode cX11_pass 73 = .ok (.goto (-35), 3) := by decide +kernel
theorem dX11_pass_76 : decode cX11_pass 76 = .ok (.aload_n 0, 1) := by decide +kernel
theorem dX11_pass_77 : decode cX11_pass 77 = .ok (.getfield 180, 3) := by decide +kernel
theorem dX11_pass_80 : decode cX11_pass 80 = .ok (.ireturn, 1) := by decide +kernel
theorem dX11_day_0 : decode cX11_day 0 = .ok (.aload_n 0, 1) := by decide +kernel
theorem dX11_day_1 : decode cX11_day 1 = .ok (.getfield 180, 3) := by decide +kernel
theorem dX11_day_4 : decode cX11_day 4 = .ok (.ireturn, 1) := by decide +kernel
theorem dX11_enroll_0 : decode cX11_enroll 0 = .ok (.aload_n 0, 1) := by decide +kernel
theorem dX11_enroll_1 : decode cX11_enroll 1 = .ok (.iload_n 1, 1) := by decide +kernel
theorem dX11_enroll_2 : decode cX11_enroll 2 = .ok (.invokevirtual 93, 3) := by decide +kernel
theorem dX11_enroll_5 : decode cX11_enroll 5 = .ok (.astore_n 3, 1) := by decide +kernel
theorem dX11_enroll_6 : decode cX11_enroll 6 = .ok (.aload_n 0, 1) := by decide +kernel
theorem dX11_enroll_7 : decode cX11_enroll 7 = .ok (.iload_n 2, 1) := by decide +kernel
theorem dX11_enroll_8 : decode cX11_enroll 8 = .ok (.invokevirtual 104, 3) := by decide +kernel
theorem dX11_enroll_11 : decode cX11_enroll 11 = .ok (.astore 4, 2) := by decide +kernel
theorem dX11_enroll_13 : decode cX11_enroll 13 = .ok (.aload_n 0, 1) := by decide +kernel
theorem dX11_enroll_14 : decode cX11_enroll 14 = .ok (.aload_n 3, 1) := by decide +kernel
theorem dX11_enroll_15 : decode cX11_enroll 15 = .ok (.aload 4, 2) := by decide +kernel
theorem dX11_enroll_17 : decode cX11_enroll 17 = .ok (.invokevirtual 191, 3) := by decide +kernel
theorem dX11_enroll_20 : decode cX11_enroll 20 = .ok (.istore 5, 2) := by decide +kernel
theorem dX11_enroll_22 : decode cX11_enroll 22 = .ok (.iload 5, 2) := by decide +kernel
theorem dX11_enroll_24 : decode cX11_enroll 24 = .ok (.bipush 100, 2) := by decide +kernel
theorem dX11_enroll_26 : decode cX11_enroll 26 = .ok (.if_icmp .ne 13, 3) := by decide +kernel
theorem dX11_enroll_29 : decode cX11_enroll 29 = .ok (.new 74, 3) := by decide +kernel
theorem dX11_enroll_32 : decode cX11_enroll 32 = .ok (.dup, 1) := by decide +kernel
theorem dX11_enroll_33 : decode cX11_enroll 33 = .ok (.ldc 195, 2) := by decide +kernel
theorem dX11_enroll_35 : decode cX11_enroll 35 = .ok (.invokespecial 78, 3) := by decide +kernel
theorem dX11_enroll_38 : decode cX11_enroll 38 = .ok (.athrow, 1) := by decide +kernel
theorem dX11_enroll_39 : decode cX11_enroll 39 = .ok (.iload 5, 2) := by decide +kernel
theorem dX11_enroll_41 : decode cX11_enroll 41 = .ok (.bipush 105, 2) := by decide +kernel
theorem dX11_enroll_43 : decode cX11_enroll 43 = .ok (.if_icmp .ne 13, 3) := by decide +kernel
theorem dX11_enroll_46 : decode cX11_enroll 46 = .ok (.new 63, 3) := by decide +kernel
theorem dX11_enroll_49 : decode cX11_enroll 49 = .ok (.dup, 1) := by decide +kernel
theorem dX11_enroll_50 : decode cX11_enroll 50 = .ok (.ldc 197, 2) := by decide +kernel
theorem dX11_enroll_52 : decode cX11_enroll 52 = .ok (.invokespecial 67, 3) := by decide +kernel
theorem dX11_enroll_55 : decode cX11_enroll 55 = .ok (.athrow, 1) := by decide +kernel
theorem dX11_enroll_56 : decode cX11_enroll 56 = .ok (.iload 5, 2) := by decide +kernel
theorem dX11_enroll_58 : decode cX11_enroll 58 = .ok (.bipush 114, 2) := by decide +kernel
theorem dX11_enroll_60 : decode cX11_enroll 60 = .ok (.if_icmp .eq 10, 3) := by decide +kernel
theorem dX11_enroll_63 : decode cX11_enroll 63 = .ok (.iload 5, 2) := by decide +kernel
theorem dX11_enroll_65 : decode cX11_enroll 65 = .ok (.bipush 97, 2) := by decide +kernel
theorem dX11_enroll_67 : decode cX11_enroll 67 = .ok (.if_icmp .ne 13, 3) := by decide +kernel
theorem dX11_enroll_70 : decode cX11_enroll 70 = .ok (.new 199, 3) := by decide +kernel
theorem dX11_enroll_73 : decode cX11_enroll 73 = .ok (.dup, 1) := by decide +kernel
theorem dX11_enroll_74 : decode cX11_enroll 74 = .ok (.ldc 201, 2) := by decide +kernel
theorem dX11_enroll_76 : decode cX11_enroll 76 = .ok (.invokespecial 203, 3) := by decide +kernel
theorem dX11_enroll_79 : decode cX11_enroll 79 = .ok (.athrow, 1) := by decide +kernel
theorem dX11_enroll_80 : decode cX11_enroll 80 = .ok (.iload 5, 2) := by decide +kernel
theorem dX11_enroll_82 : decode cX11_enroll 82 = .ok (.bipush 99, 2) := by decide +kernel
theorem dX11_enroll_84 : decode cX11_enroll 84 = .ok (.if_icmp .ne 13, 3) := by decide +kernel
theorem dX11_enroll_87 : decode cX11_enroll 87 = .ok (.new 204, 3) := by decide +kernel
theorem dX11_enroll_90 : decode cX11_enroll 90 = .ok (.dup, 1) := by decide +kernel
theorem dX11_enroll_91 : decode cX11_enroll 91 = .ok (.ldc 206, 2) := by decide +kernel
theorem dX11_enroll_93 : decode cX11_enroll 93 = .ok (.invokespecial 208, 3) := by decide +kernel
theorem dX11_enroll_96 : decode cX11_enroll 96 = .ok (.athrow, 1) := by decide +kernel
theorem dX11_enroll_97 : decode cX11_enroll 97 = .ok (.iload 5, 2) := by decide +kernel
theorem dX11_enroll_99 : decode cX11_enroll 99 = .ok (.bipush 102, 2) := by decide +kernel
theorem dX11_enroll_101 : decode cX11_enroll 101 = .ok (.if_icmp .ne 13, 3) := by decide +kernel
theorem dX11_enroll_104 : decode cX11_enroll 104 = .ok (.new 209, 3) := by decide +kernel
theorem dX11_enroll_107 : decode cX11_enroll 107 = .ok (.dup, 1) := by decide +kernel
theorem dX11_enroll_108 : decode cX11_enroll 108 = .ok (.ldc 211, 2) := by decide +kernel
theorem dX11_enroll_110 : decode cX11_enroll 110 = .ok (.invokespecial 213, 3) := by decide +kernel
theorem dX11_enroll_113 : decode cX11_enroll 113 = .ok (.athrow, 1) := by decide +kernel
theorem dX11_enroll_114 : decode cX11_enroll 114 = .ok (.iload 5, 2) := by decide +kernel
theorem dX11_enroll_116 : decode cX11_enroll 116 = .ok (.bipush 101, 2) := by decide +kernel
theorem dX11_enroll_118 : decode cX11_enroll 118 = .ok (.if_icmp .ne 13, 3) := by decide +kernel
theorem dX11_enroll_121 : decode cX11_enroll 121 = .ok (.aload_n 3, 1) := by decide +kernel
theorem dX11_enroll_122 : decode cX11_enroll 122 = .ok (.getfield 214, 3) := by decide +kernel
theorem dX11_enroll_125 : decode cX11_enroll 125 = .ok (.iload_n 2, 1) := by decide +kernel
theorem dX11_enroll_126 : decode cX11_enroll 126 = .ok (.iconst 1, 1) := by decide +kernel
theorem dX11_enroll_127 : decode cX11_enroll 127 = .ok (.bastore, 1) := by decide +kernel
theorem dX11_enroll_128 : decode cX11_enroll 128 = .ok (.goto 13, 3) := by decide +kernel
theorem dX11_enroll_131 : decode cX11_enroll 131 = .ok (.aload 4, 2) := by decide +kernel
theorem dX11_enroll_133 : decode cX11_enroll 133 = .ok (.getfield 217, 3) := by decide +kernel
theorem dX11_enroll_136 : decode cX11_enroll 136 = .ok (.aload_n 3, 1) := by decide +kernel
theorem dX11_enroll_137 : decode cX11_enroll 137 = .ok (.invokevirtual 84, 3) := by decide +kernel
theorem dX11_enroll_140 : decode cX11_enroll 140 = .ok (.pop, 1) := by decide +kernel
theorem dX11_enroll_141 : decode cX11_enroll 141 = .ok (.aload_n 0, 1) := by decide +kernel
theorem dX11_enroll_142 : decode cX11_enroll 142 = .ok (.invokevirtual 101, 3) := by decide +kernel
theorem dX11_enroll_145 : decode cX11_enroll 145 = .ok (.iload 5, 2) := by decide +kernel
theorem dX11_enroll_147 : decode cX11_enroll 147 = .ok (.ireturn, 1) := by decide +kernel
theorem dX11_outcome_0 : decode cX11_outcome 0 = .ok (.aload_n 0, 1) := by decide +kernel
theorem dX11_outcome_1 : decode cX11_outcome 1 = .ok (.iload_n 1, 1) := by decide +kernel
theorem dX11_outcome_2 : decode cX11_outcome 2 = .ok (.invokevirtual 93, 3) := by decide +kernel
theorem dX11_outcome_5 : decode cX11_outcome 5 = .ok (.astore_n 3, 1) := by decide +kernel
theorem dX11_outcome_6 : decode cX11_outcome 6 = .ok (.aload_n 0, 1) := by decide +kernel
theorem dX11_outcome_7 : decode cX11_outcome 7 = .ok (.aload_n 3, 1) := by decide +kernel
theorem dX11_outcome_8 : decode cX11_outcome 8 = .ok (.aload_n 0, 1) := by decide +kernel
theorem dX11_outcome_9 : decode cX11_outcome 9 = .ok (.iload_n 2, 1) := by decide +kernel
theorem dX11_outcome_10 : decode cX11_outcome 10 = .ok (.invokevirtual 104, 3) := by decide +kernel
theorem dX11_outcome_13 : decode cX11_outcome 13 = .ok (.invokevirtual 191, 3) := by decide +kernel
theorem dX11_outcome_16 : decode cX11_outcome 16 = .ok (.ireturn, 1) := by decide +kernel
theorem dX11_drop_0 : decode cX11_drop 0 = .ok (.aload_n 0, 1) := by decide +kernel
theorem dX11_drop_1 : decode cX11_drop 1 = .ok (.iload_n 1, 1) := by decide +kernel
theorem dX11_drop_2 : decode cX11_drop 2 = .ok (.invokevirtual 93, 3) := by decide +kernel
theorem dX11_drop_5 : decode cX11_drop 5 = .ok (.astore_n 3, 1) := by decide +kernel
theorem dX11_drop_6 : decode cX11_drop 6 = .ok (.aload_n 0, 1) := by decide +kernel
theorem dX11_drop_7 : decode cX11_drop 7 = .ok (.iload_n 2, 1) := by decide +kernel
theorem dX11_drop_8 : decode cX11_drop 8 = .ok (.invokevirtual 104, 3) := by decide +kernel
theorem dX11_drop_11 : decode cX11_drop 11 = .ok (.astore 4, 2) := by decide +kernel
theorem dX11_drop_13 : decode cX11_drop 13 = .ok (.aload_n 3, 1) := by decide +kernel
theorem dX11_drop_14 : decode cX11_drop 14 = .ok (.getfield 214, 3) := by decide +kernel
theorem dX11_drop_17 : decode cX11_drop 17 = .ok (.iload_n 2, 1) := by decide +kernel
theorem dX11_drop_18 : decode cX11_drop 18 = .ok (.baload, 1) := by decide +kernel
theorem dX11_drop_19 : decode cX11_drop 19 = .ok (.istore 5, 2) := by decide +kernel
theorem dX11_drop_21 : decode cX11_drop 21 = .ok (.iload 5, 2) := by decide +kernel
theorem dX11_drop_23 : decode cX11_drop 23 = .ok (.ifCond .ne 23, 3) := by decide +kernel
theorem dX11_drop_26 : decode cX11_drop 26 = .ok (.aload 4, 2) := by decide +kernel
theorem dX11_drop_28 : decode cX11_drop 28 = .ok (.aload_n 3, 1) := by decide +kernel
theorem dX11_drop_29 : decode cX11_drop 29 = .ok (.invokevirtual 220, 3) := by decide +kernel
theorem dX11_drop_32 : decode cX11_drop 32 = .ok (.iconst (-1), 1) := by decide +kernel
theorem dX11_drop_33 : decode cX11_drop 33 = .ok (.if_icmp .ne 13, 3) := by decide +kernel
theorem dX11_drop_36 : decode cX11_drop 36 = .ok (.new 209, 3) := by decide +kernel
theorem dX11_drop_39 : decode cX11_drop 39 = .ok (.dup, 1) := by decide +kernel
theorem dX11_drop_40 : decode cX11_drop 40 = .ok (.ldc 224, 2) := by decide +kernel
theorem dX11_drop_42 : decode cX11_drop 42 = .ok (.invokespecial 213, 3) := by decide +kernel
theorem dX11_drop_45 : decode cX11_drop 45 = .ok (.athrow, 1) := by decide +kernel
theorem dX11_drop_46 : decode cX11_drop 46 = .ok (.aload_n 0, 1) := by decide +kernel
theorem dX11_drop_47 : decode cX11_drop 47 = .ok (.getfield 180, 3) := by decide +kernel
theorem dX11_drop_50 : decode cX11_drop 50 = .ok (.bipush 20, 2) := by decide +kernel
theorem dX11_drop_52 : decode cX11_drop 52 = .ok (.if_icmp .le 13, 3) := by decide +kernel
theorem dX11_drop_55 : decode cX11_drop 55 = .ok (.new 74, 3) := by decide +kernel
theorem dX11_drop_58 : decode cX11_drop 58 = .ok (.dup, 1) := by decide +kernel
theorem dX11_drop_59 : decode cX11_drop 59 = .ok (.ldc 226, 2) := by decide +kernel
theorem dX11_drop_61 : decode cX11_drop 61 = .ok (.invokespecial 78, 3) := by decide +kernel
theorem dX11_drop_64 : decode cX11_drop 64 = .ok (.athrow, 1) := by decide +kernel
theorem dX11_drop_65 : decode cX11_drop 65 = .ok (.iload 5, 2) := by decide +kernel
theorem dX11_drop_67 : decode cX11_drop 67 = .ok (.ifCond .eq 12, 3) := by decide +kernel
theorem dX11_drop_70 : decode cX11_drop 70 = .ok (.aload_n 0, 1) := by decide +kernel
theorem dX11_drop_71 : decode cX11_drop 71 = .ok (.aload_n 3, 1) := by decide +kernel
theorem dX11_drop_72 : decode cX11_drop 72 = .ok (.iload_n 2, 1) := by decide +kernel
theorem dX11_drop_73 : decode cX11_drop 73 = .ok (.invokevirtual 228, 3) := by decide +kernel
theorem dX11_drop_76 : decode cX11_drop 76 = .ok (.goto 9, 3) := by decide +kernel
theorem dX11_drop_79 : decode cX11_drop 79 = .ok (.aload 4, 2) := by decide +kernel
theorem dX11_drop_81 : decode cX11_drop 81 = .ok (.aload_n 3, 1) := by decide +kernel
theorem dX11_drop_82 : decode cX11_drop 82 = .ok (.invokevirtual 232, 3) := by decide +kernel
theorem dX11_drop_85 : decode cX11_drop 85 = .ok (.aload_n 0, 1) := by decide +kernel
theorem dX11_drop_86 : decode cX11_drop 86 = .ok (.invokevirtual 101, 3) := by decide +kernel
theorem dX11_drop_89 : decode cX11_drop 89 = .ok (.iload 5, 2) := by decide +kernel
theorem dX11_drop_91 : decode cX11_drop 91 = .ok (.ifCond .ne 6, 3) := by decide +kernel
theorem dX11_drop_94 : decode cX11_drop 94 = .ok (.bipush 108, 2) := by decide +kernel
theorem dX11_drop_96 : decode cX11_drop 96 = .ok (.ireturn, 1) := by decide +kernel
theorem dX11_drop_97 : decode cX11_drop 97 = .ok (.aload_n 0, 1) := by decide +kernel
theorem dX11_drop_98 : decode cX11_drop 98 = .ok (.invokevirtual 236, 3) := by decide +kernel
theorem dX11_drop_101 : decode cX11_drop 101 = .ok (.ifCond .eq 8, 3) := by decide +kernel
theorem dX11_drop_104 : decode cX11_drop 104 = .ok (.bipush 119, 2) := by decide +kernel
theorem dX11_drop_106 : decode cX11_drop 106 = .ok (.goto 5, 3) := by decide +kernel
theorem dX11_drop_109 : decode cX11_drop 109 = .ok (.bipush 100, 2) := by decide +kernel
theorem dX11_drop_111 : decode cX11_drop 111 = .ok (.ireturn, 1) := by decide +kernel
theorem dX11_mark_0 : decode cX11_mark 0 = .ok (.aload_n 0, 1) := by decide +kernel
theorem dX11_mark_1 : decode cX11_mark 1 = .ok (.iload_n 1, 1) := by decide +kernel
theorem dX11_mark_2 : decode cX11_mark 2 = .ok (.invokevirtual 93, 3) := by decide +kernel
theorem dX11_mark_5 : decode cX11_mark 5 = .ok (.astore 4, 2) := by decide +kernel
theorem dX11_mark_7 : decode cX11_mark 7 = .ok (.aload_n 0, 1) := by decide +kernel
theorem dX11_mark_8 : decode cX11_mark 8 = .ok (.iload_n 2, 1) := by decide +kernel
theorem dX11_mark_9 : decode cX11_mark 9 = .ok (.invokevirtual 104, 3) := by decide +kernel
theorem dX11_mark_12 : decode cX11_mark 12 = .ok (.pop, 1) := by decide +kernel
theorem dX11_mark_13 : decode cX11_mark 13 = .ok (.aload 4, 2) := by decide +kernel
theorem dX11_mark_15 : decode cX11_mark 15 = .ok (.getfield 214, 3) := by decide +kernel
theorem dX11_mark_18 : decode cX11_mark 18 = .ok (.iload_n 2, 1) := by decide +kernel
theorem dX11_mark_19 : decode cX11_mark 19 = .ok (.baload, 1) := by decide +kernel
theorem dX11_mark_20 : decode cX11_mark 20 = .ok (.ifCond .ne 14, 3) := by decide +kernel
theorem dX11_mark_23 : decode cX11_mark 23 = .ok (.new 209, 3) := by decide +kernel
theorem dX11_mark_26 : decode cX11_mark 26 = .ok (.dup, 1) := by decide +kernel
theorem dX11_mark_27 : decode cX11_mark 27 = .ok (.ldc_w 269, 3) := by decide +kernel
theorem dX11_mark_30 : decode cX11_mark 30 = .ok (.invokespecial 213, 3) := by decide +kernel
theorem dX11_mark_33 : decode cX11_mark 33 = .ok (.athrow, 1) := by decide +kernel
theorem dX11_mark_34 : decode cX11_mark 34 = .ok (.iload_n 3, 1) := by decide +kernel
theorem dX11_mark_35 : decode cX11_mark 35 = .ok (.invokestatic 121, 3) := by decide +kernel
theorem dX11_mark_38 : decode cX11_mark 38 = .ok (.aload_n 0, 1) := by decide +kernel
theorem dX11_mark_39 : decode cX11_mark 39 = .ok (.getfield 180, 3) := by decide +kernel
theorem dX11_mark_42 : decode cX11_mark 42 = .ok (.bipush 21, 2) := by decide +kernel
theorem dX11_mark_44 : decode cX11_mark 44 = .ok (.if_icmp .ge 14, 3) := by decide +kernel
theorem dX11_mark_47 : decode cX11_mark 47 = .ok (.new 74, 3) := by decide +kernel
theorem dX11_mark_50 : decode cX11_mark 50 = .ok (.dup, 1) := by decide +kernel
theorem dX11_mark_51 : decode cX11_mark 51 = .ok (.ldc_w 271, 3) := by decide +kernel
theorem dX11_mark_54 : decode cX11_mark 54 = .ok (.invokespecial 78, 3) := by decide +kernel
theorem dX11_mark_57 : decode cX11_mark 57 = .ok (.athrow, 1) := by decide +kernel
theorem dX11_mark_58 : decode cX11_mark 58 = .ok (.aload 4, 2) := by decide +kernel
theorem dX11_mark_60 : decode cX11_mark 60 = .ok (.getfield 273, 3) := by decide +kernel
theorem dX11_mark_63 : decode cX11_mark 63 = .ok (.iload_n 2, 1) := by decide +kernel
theorem dX11_mark_64 : decode cX11_mark 64 = .ok (.iaload, 1) := by decide +kernel
theorem dX11_mark_65 : decode cX11_mark 65 = .ok (.iconst (-1), 1) := by decide +kernel
theorem dX11_mark_66 : decode cX11_mark 66 = .ok (.if_icmp .eq 7, 3) := by decide +kernel
theorem dX11_mark_69 : decode cX11_mark 69 = .ok (.iconst 1, 1) := by decide +kernel
theorem dX11_mark_70 : decode cX11_mark 70 = .ok (.goto 4, 3) := by decide +kernel
theorem dX11_mark_73 : decode cX11_mark 73 = .ok (.iconst 0, 1) := by decide +kernel
theorem dX11_mark_74 : decode cX11_mark 74 = .ok (.istore 5, 2) := by decide +kernel
theorem dX11_mark_76 : decode cX11_mark 76 = .ok (.aload 4, 2) := by decide +kernel
theorem dX11_mark_78 : decode cX11_mark 78 = .ok (.getfield 273, 3) := by decide +kernel
theorem dX11_mark_81 : decode cX11_mark 81 = .ok (.iload_n 2, 1) := by decide +kernel
theorem dX11_mark_82 : decode cX11_mark 82 = .ok (.iload_n 3, 1) := by decide +kernel
theorem dX11_mark_83 : decode cX11_mark 83 = .ok (.iastore, 1) := by decide +kernel
theorem dX11_mark_84 : decode cX11_mark 84 = .ok (.iload 5, 2) := by decide +kernel
theorem dX11_mark_86 : decode cX11_mark 86 = .ok (.ireturn, 1) := by decide +kernel
theorem dX11_endTerm_0 : decode cX11_endTerm 0 = .ok (.aload_n 0, 1) := by decide +kernel
theorem dX11_endTerm_1 : decode cX11_endTerm 1 = .ok (.getfield 180, 3) := by decide +kernel
theorem dX11_endTerm_4 : decode cX11_endTerm 4 = .ok (.bipush 21, 2) := by decide +kernel
theorem dX11_endTerm_6 : decode cX11_endTerm 6 = .ok (.if_icmp .ge 14, 3) := by decide +kernel
theorem dX11_endTerm_9 : decode cX11_endTerm 9 = .ok (.new 74, 3) := by decide +kernel
theorem dX11_endTerm_12 : decode cX11_endTerm 12 = .ok (.dup, 1) := by decide +kernel
theorem dX11_endTerm_13 : decode cX11_endTerm 13 = .ok (.ldc_w 271, 3) := by decide +kernel
theorem dX11_endTerm_16 : decode cX11_endTerm 16 = .ok (.invokespecial 78, 3) := by decide +kernel
theorem dX11_endTerm_19 : decode cX11_endTerm 19 = .ok (.athrow, 1) := by decide +kernel
theorem dX11_endTerm_20 : decode cX11_endTerm 20 = .ok (.iconst 0, 1) := by decide +kernel
theorem dX11_endTerm_21 : decode cX11_endTerm 21 = .ok (.istore_n 1, 1) := by decide +kernel
theorem dX11_endTerm_22 : decode cX11_endTerm 22 = .ok (.iconst 0, 1) := by decide +kernel
theorem dX11_endTerm_23 : decode cX11_endTerm 23 = .ok (.istore_n 2, 1) := by decide +kernel
theorem dX11_endTerm_24 : decode cX11_endTerm 24 = .ok (.iload_n 2, 1) := by decide +kernel
theorem dX11_endTerm_25 : decode cX11_endTerm 25 = .ok (.aload_n 0, 1) := by decide +kernel
theorem dX11_endTerm_26 : decode cX11_endTerm 26 = .ok (.getfield 16, 3) := by decide +kernel
theorem dX11_endTerm_29 : decode cX11_endTerm 29 = .ok (.invokevirtual 70, 3) := by decide +kernel
theorem dX11_endTerm_32 : decode cX11_endTerm 32 = .ok (.if_icmp .ge 26, 3) := by decide +kernel
theorem dX11_endTerm_35 : decode cX11_endTerm 35 = .ok (.iload_n 1, 1) := by decide +kernel
theorem dX11_endTerm_36 : decode cX11_endTerm 36 = .ok (.aload_n 0, 1) := by decide +kernel
theorem dX11_endTerm_37 : decode cX11_endTerm 37 = .ok (.getfield 16, 3) := by decide +kernel
theorem dX11_endTerm_40 : decode cX11_endTerm 40 = .ok (.iload_n 2, 1) := by decide +kernel
theorem dX11_endTerm_41 : decode cX11_endTerm 41 = .ok (.invokevirtual 276, 3) := by decide +kernel
theorem dX11_endTerm_44 : decode cX11_endTerm 44 = .ok (.checkcast 29, 3) := by decide +kernel
theorem dX11_endTerm_47 : decode cX11_endTerm 47 = .ok (.invokevirtual 280, 3) := by decide +kernel
theorem dX11_endTerm_50 : decode cX11_endTerm 50 = .ok (.iadd, 1) := by decide +kernel
theorem dX11_endTerm_51 : decode cX11_endTerm 51 = .ok (.istore_n 1, 1) := by decide +kernel
theorem dX11_endTerm_52 : decode cX11_endTerm 52 = .ok (.iinc 2 1, 3) := by decide +kernel
theorem dX11_endTerm_55 : decode cX11_endTerm 55 = .ok (.goto (-31), 3) := by decide +kernel
theorem dX11_endTerm_58 : decode cX11_endTerm 58 = .ok (.aload_n 0, 1) := by decide +kernel
theorem dX11_endTerm_59 : decode cX11_endTerm 59 = .ok (.iconst 0, 1) := by decide +kernel
theorem dX11_endTerm_60 : decode cX11_endTerm 60 = .ok (.putfield 180, 3) := by decide +kernel
theorem dX11_endTerm_63 : decode cX11_endTerm 63 = .ok (.aload_n 0, 1) := by decide +kernel
theorem dX11_endTerm_64 : decode cX11_endTerm 64 = .ok (.dup, 1) := by decide +kernel
theorem dX11_endTerm_65 : decode cX11_endTerm 65 = .ok (.getfield 188, 3) := by decide +kernel
theorem dX11_endTerm_68 : decode cX11_endTerm 68 = .ok (.iconst 1, 1) := by decide +kernel
theorem dX11_endTerm_69 : decode cX11_endTerm 69 = .ok (.iadd, 1) := by decide +kernel
theorem dX11_endTerm_70 : decode cX11_endTerm 70 = .ok (.putfield 188, 3) := by decide +kernel
theorem dX11_endTerm_73 : decode cX11_endTerm 73 = .ok (.iload_n 1, 1) := by decide +kernel
theorem dX11_endTerm_74 : decode cX11_endTerm 74 = .ok (.ireturn, 1) := by decide +kernel
theorem dX11_moveIn_0 : decode cX11_moveIn 0 = .ok (.aload_n 0, 1) := by decide +kernel
theorem dX11_moveIn_1 : decode cX11_moveIn 1 = .ok (.iload_n 1, 1) := by decide +kernel
theorem dX11_moveIn_2 : decode cX11_moveIn 2 = .ok (.invokevirtual 93, 3) := by decide +kernel
theorem dX11_moveIn_5 : decode cX11_moveIn 5 = .ok (.astore_n 3, 1) := by decide +kernel
theorem dX11_moveIn_6 : decode cX11_moveIn 6 = .ok (.aload_n 0, 1) := by decide +kernel
theorem dX11_moveIn_7 : decode cX11_moveIn 7 = .ok (.iload_n 2, 1) := by decide +kernel
theorem dX11_moveIn_8 : decode cX11_moveIn 8 = .ok (.invokevirtual 104, 3) := by decide +kernel
theorem dX11_moveIn_11 : decode cX11_moveIn 11 = .ok (.astore 4, 2) := by decide +kernel
theorem dX11_moveIn_13 : decode cX11_moveIn 13 = .ok (.aload_n 3, 1) := by decide +kernel
theorem dX11_moveIn_14 : decode cX11_moveIn 14 = .ok (.iload_n 2, 1) := by decide +kernel
theorem dX11_moveIn_15 : decode cX11_moveIn 15 = .ok (.invokevirtual 283, 3) := by decide +kernel
theorem dX11_moveIn_18 : decode cX11_moveIn 18 = .ok (.ifCond .eq 14, 3) := by decide +kernel
theorem dX11_moveIn_21 : decode cX11_moveIn 21 = .ok (.new 63, 3) := by decide +kernel
theorem dX11_moveIn_24 : decode cX11_moveIn 24 = .ok (.dup, 1) := by decide +kernel
theorem dX11_moveIn_25 : decode cX11_moveIn 25 = .ok (.ldc_w 287, 3) := by decide +kernel
theorem dX11_moveIn_28 : decode cX11_moveIn 28 = .ok (.invokespecial 67, 3) := by decide +kernel
theorem dX11_moveIn_31 : decode cX11_moveIn 31 = .ok (.athrow, 1) := by decide +kernel
theorem dX11_moveIn_32 : decode cX11_moveIn 32 = .ok (.aload_n 0, 1) := by decide +kernel
theorem dX11_moveIn_33 : decode cX11_moveIn 33 = .ok (.aload_n 3, 1) := by decide +kernel
theorem dX11_moveIn_34 : decode cX11_moveIn 34 = .ok (.invokevirtual 289, 3) := by decide +kernel
theorem dX11_moveIn_37 : decode cX11_moveIn 37 = .ok (.aload 4, 2) := by decide +kernel
theorem dX11_moveIn_39 : decode cX11_moveIn 39 = .ok (.getfield 292, 3) := by decide +kernel
theorem dX11_moveIn_42 : decode cX11_moveIn 42 = .ok (.iadd, 1) := by decide +kernel
theorem dX11_moveIn_43 : decode cX11_moveIn 43 = .ok (.istore 5, 2) := by decide +kernel
theorem dX11_moveIn_45 : decode cX11_moveIn 45 = .ok (.iload 5, 2) := by decide +kernel
theorem dX11_moveIn_47 : decode cX11_moveIn 47 = .ok (.bipush 12, 2) := by decide +kernel
theorem dX11_moveIn_49 : decode cX11_moveIn 49 = .ok (.if_icmp .le 14, 3) := by decide +kernel
theorem dX11_moveIn_52 : decode cX11_moveIn 52 = .ok (.new 204, 3) := by decide +kernel
theorem dX11_moveIn_55 : decode cX11_moveIn 55 = .ok (.dup, 1) := by decide +kernel
theorem dX11_moveIn_56 : decode cX11_moveIn 56 = .ok (.ldc_w 295, 3) := by decide +kernel
theorem dX11_moveIn_59 : decode cX11_moveIn 59 = .ok (.invokespecial 208, 3) := by decide +kernel
theorem dX11_moveIn_62 : decode cX11_moveIn 62 = .ok (.athrow, 1) := by decide +kernel
theorem dX11_moveIn_63 : decode cX11_moveIn 63 = .ok (.aload_n 3, 1) := by decide +kernel
theorem dX11_moveIn_64 : decode cX11_moveIn 64 = .ok (.iload_n 2, 1) := by decide +kernel
theorem dX11_moveIn_65 : decode cX11_moveIn 65 = .ok (.invokevirtual 297, 3) := by decide +kernel
theorem dX11_moveIn_68 : decode cX11_moveIn 68 = .ok (.aload_n 0, 1) := by decide +kernel
theorem dX11_moveIn_69 : decode cX11_moveIn 69 = .ok (.invokevirtual 101, 3) := by decide +kernel
theorem dX11_moveIn_72 : decode cX11_moveIn 72 = .ok (.iload 5, 2) := by decide +kernel
theorem dX11_moveIn_74 : decode cX11_moveIn 74 = .ok (.ireturn, 1) := by decide +kernel
theorem dX11_bestMark_0 : decode cX11_bestMark 0 = .ok (.aload_n 0, 1) := by decide +kernel
theorem dX11_bestMark_1 : decode cX11_bestMark 1 = .ok (.iload_n 1, 1) := by decide +kernel
theorem dX11_bestMark_2 : decode cX11_bestMark 2 = .ok (.invokevirtual 93, 3) := by decide +kernel
theorem dX11_bestMark_5 : decode cX11_bestMark 5 = .ok (.astore_n 3, 1) := by decide +kernel
theorem dX11_bestMark_6 : decode cX11_bestMark 6 = .ok (.aload_n 0, 1) := by decide +kernel
theorem dX11_bestMark_7 : decode cX11_bestMark 7 = .ok (.iload_n 2, 1) := by decide +kernel
theorem dX11_bestMark_8 : decode cX11_bestMark 8 = .ok (.invokevirtual 104, 3) := by decide +kernel
theorem dX11_bestMark_11 : decode cX11_bestMark 11 = .ok (.pop, 1) := by decide +kernel
theorem dX11_bestMark_12 : decode cX11_bestMark 12 = .ok (.aload_n 3, 1) := by decide +kernel
theorem dX11_bestMark_13 : decode cX11_bestMark 13 = .ok (.getfield 300, 3) := by decide +kernel
theorem dX11_bestMark_16 : decode cX11_bestMark 16 = .ok (.iload_n 2, 1) := by decide +kernel
theorem dX11_bestMark_17 : decode cX11_bestMark 17 = .ok (.iaload, 1) := by decide +kernel
theorem dX11_bestMark_18 : decode cX11_bestMark 18 = .ok (.iconst (-1), 1) := by decide +kernel
theorem dX11_bestMark_19 : decode cX11_bestMark 19 = .ok (.if_icmp .ne 14, 3) := by decide +kernel
theorem dX11_bestMark_22 : decode cX11_bestMark 22 = .ok (.new 209, 3) := by decide +kernel
theorem dX11_bestMark_25 : decode cX11_bestMark 25 = .ok (.dup, 1) := by decide +kernel
theorem dX11_bestMark_26 : decode cX11_bestMark 26 = .ok (.ldc_w 303, 3) := by decide +kernel
theorem dX11_bestMark_29 : decode cX11_bestMark 29 = .ok (.invokespecial 213, 3) := by decide +kernel
theorem dX11_bestMark_32 : decode cX11_bestMark 32 = .ok (.athrow, 1) := by decide +kernel
theorem dX11_bestMark_33 : decode cX11_bestMark 33 = .ok (.aload_n 3, 1) := by decide +kernel
theorem dX11_bestMark_34 : decode cX11_bestMark 34 = .ok (.getfield 300, 3) := by decide +kernel
theorem dX11_bestMark_37 : decode cX11_bestMark 37 = .ok (.iload_n 2, 1) := by decide +kernel
theorem dX11_bestMark_38 : decode cX11_bestMark 38 = .ok (.iaload, 1) := by decide +kernel
theorem dX11_bestMark_39 : decode cX11_bestMark 39 = .ok (.ireturn, 1) := by decide +kernel
theorem dX11_attempts_0 : decode cX11_attempts 0 = .ok (.aload_n 0, 1) := by decide +kernel
theorem dX11_attempts_1 : decode cX11_attempts 1 = .ok (.iload_n 1, 1) := by decide +kernel
theorem dX11_attempts_2 : decode cX11_attempts 2 = .ok (.invokevirtual 93, 3) := by decide +kernel
theorem dX11_attempts_5 : decode cX11_attempts 5 = .ok (.astore_n 3, 1) := by decide +kernel
theorem dX11_attempts_6 : decode cX11_attempts 6 = .ok (.aload_n 0, 1) := by decide +kernel
theorem dX11_attempts_7 : decode cX11_attempts 7 = .ok (.iload_n 2, 1) := by decide +kernel
theorem dX11_attempts_8 : decode cX11_attempts 8 = .ok (.invokevirtual 104, 3) := by decide +kernel
theorem dX11_attempts_11 : decode cX11_attempts 11 = .ok (.pop, 1) := by decide +kernel
theorem dX11_attempts_12 : decode cX11_attempts 12 = .ok (.aload_n 3, 1) := by decide +kernel
theorem dX11_attempts_13 : decode cX11_attempts 13 = .ok (.getfield 254, 3) := by decide +kernel
theorem dX11_attempts_16 : decode cX11_attempts 16 = .ok (.iload_n 2, 1) := by decide +kernel
theorem dX11_attempts_17 : decode cX11_attempts 17 = .ok (.iaload, 1) := by decide +kernel
theorem dX11_attempts_18 : decode cX11_attempts 18 = .ok (.ireturn, 1) := by decide +kernel
theorem dX11_earnedCredits_0 : decode cX11_earnedCredits 0 = .ok (.aload_n 0, 1) := by decide +kernel
theorem dX11_earnedCredits_1 : decode cX11_earnedCredits 1 = .ok (.aload_n 0, 1) := by decide +kernel
theorem dX11_earnedCredits_2 : decode cX11_earnedCredits 2 = .ok (.iload_n 1, 1) := by decide +kernel
theorem dX11_earnedCredits_3 : decode cX11_earnedCredits 3 = .ok (.invokevirtual 93, 3) := by decide +kernel
theorem dX11_earnedCredits_6 : decode cX11_earnedCredits 6 = .ok (.invokevirtual 305, 3) := by decide +kernel
theorem dX11_earnedCredits_9 : decode cX11_earnedCredits 9 = .ok (.ireturn, 1) := by decide +kernel
theorem dX11_load_0 : decode cX11_load 0 = .ok (.aload_n 0, 1) := by decide +kernel
theorem dX11_load_1 : decode cX11_load 1 = .ok (.aload_n 0, 1) := by decide +kernel
theorem dX11_load_2 : decode cX11_load 2 = .ok (.iload_n 1, 1) := by decide +kernel
theorem dX11_load_3 : decode cX11_load 3 = .ok (.invokevirtual 93, 3) := by decide +kernel
theorem dX11_load_6 : decode cX11_load 6 = .ok (.invokevirtual 266, 3) := by decide +kernel
theorem dX11_load_9 : decode cX11_load 9 = .ok (.ireturn, 1) := by decide +kernel
theorem dX11_isEnrolled_0 : decode cX11_isEnrolled 0 = .ok (.aload_n 0, 1) := by decide +kernel
theorem dX11_isEnrolled_1 : decode cX11_isEnrolled 1 = .ok (.iload_n 1, 1) := by decide +kernel
theorem dX11_isEnrolled_2 : decode cX11_isEnrolled 2 = .ok (.invokevirtual 93, 3) := by decide +kernel
theorem dX11_isEnrolled_5 : decode cX11_isEnrolled 5 = .ok (.astore_n 3, 1) := by decide +kernel
theorem dX11_isEnrolled_6 : decode cX11_isEnrolled 6 = .ok (.aload_n 0, 1) := by decide +kernel
theorem dX11_isEnrolled_7 : decode cX11_isEnrolled 7 = .ok (.iload_n 2, 1) := by decide +kernel
theorem dX11_isEnrolled_8 : decode cX11_isEnrolled 8 = .ok (.invokevirtual 104, 3) := by decide +kernel
theorem dX11_isEnrolled_11 : decode cX11_isEnrolled 11 = .ok (.pop, 1) := by decide +kernel
theorem dX11_isEnrolled_12 : decode cX11_isEnrolled 12 = .ok (.aload_n 3, 1) := by decide +kernel
theorem dX11_isEnrolled_13 : decode cX11_isEnrolled 13 = .ok (.getfield 214, 3) := by decide +kernel
theorem dX11_isEnrolled_16 : decode cX11_isEnrolled 16 = .ok (.iload_n 2, 1) := by decide +kernel
theorem dX11_isEnrolled_17 : decode cX11_isEnrolled 17 = .ok (.baload, 1) := by decide +kernel
theorem dX11_isEnrolled_18 : decode cX11_isEnrolled 18 = .ok (.ireturn, 1) := by decide +kernel
theorem dX11_enrolled_0 : decode cX11_enrolled 0 = .ok (.aload_n 0, 1) := by decide +kernel
theorem dX11_enrolled_1 : decode cX11_enrolled 1 = .ok (.aload_n 0, 1) := by decide +kernel
theorem dX11_enrolled_2 : decode cX11_enrolled 2 = .ok (.iload_n 1, 1) := by decide +kernel
theorem dX11_enrolled_3 : decode cX11_enrolled 3 = .ok (.invokevirtual 104, 3) := by decide +kernel
theorem dX11_enrolled_6 : decode cX11_enrolled 6 = .ok (.invokevirtual 314, 3) := by decide +kernel
theorem dX11_enrolled_9 : decode cX11_enrolled 9 = .ok (.ireturn, 1) := by decide +kernel
theorem dX11_waiting_0 : decode cX11_waiting 0 = .ok (.aload_n 0, 1) := by decide +kernel
theorem dX11_waiting_1 : decode cX11_waiting 1 = .ok (.iload_n 1, 1) := by decide +kernel
theorem dX11_waiting_2 : decode cX11_waiting 2 = .ok (.invokevirtual 104, 3) := by decide +kernel
theorem dX11_waiting_5 : decode cX11_waiting 5 = .ok (.getfield 217, 3) := by decide +kernel
theorem dX11_waiting_8 : decode cX11_waiting 8 = .ok (.invokevirtual 70, 3) := by decide +kernel
theorem dX11_waiting_11 : decode cX11_waiting 11 = .ok (.ireturn, 1) := by decide +kernel
theorem dX11_placeOf_0 : decode cX11_placeOf 0 = .ok (.aload_n 0, 1) := by decide +kernel
theorem dX11_placeOf_1 : decode cX11_placeOf 1 = .ok (.iload_n 1, 1) := by decide +kernel
theorem dX11_placeOf_2 : decode cX11_placeOf 2 = .ok (.invokevirtual 93, 3) := by decide +kernel
theorem dX11_placeOf_5 : decode cX11_placeOf 5 = .ok (.astore_n 3, 1) := by decide +kernel
theorem dX11_placeOf_6 : decode cX11_placeOf 6 = .ok (.aload_n 0, 1) := by decide +kernel
theorem dX11_placeOf_7 : decode cX11_placeOf 7 = .ok (.iload_n 2, 1) := by decide +kernel
theorem dX11_placeOf_8 : decode cX11_placeOf 8 = .ok (.invokevirtual 104, 3) := by decide +kernel
theorem dX11_placeOf_11 : decode cX11_placeOf 11 = .ok (.aload_n 3, 1) := by decide +kernel
theorem dX11_placeOf_12 : decode cX11_placeOf 12 = .ok (.invokevirtual 220, 3) := by decide +kernel
theorem dX11_placeOf_15 : decode cX11_placeOf 15 = .ok (.istore 4, 2) := by decide +kernel
theorem dX11_placeOf_17 : decode cX11_placeOf 17 = .ok (.iload 4, 2) := by decide +kernel
theorem dX11_placeOf_19 : decode cX11_placeOf 19 = .ok (.iconst (-1), 1) := by decide +kernel
theorem dX11_placeOf_20 : decode cX11_placeOf 20 = .ok (.if_icmp .ne 14, 3) := by decide +kernel
theorem dX11_placeOf_23 : decode cX11_placeOf 23 = .ok (.new 209, 3) := by decide +kernel
theorem dX11_placeOf_26 : decode cX11_placeOf 26 = .ok (.dup, 1) := by decide +kernel
theorem dX11_placeOf_27 : decode cX11_placeOf 27 = .ok (.ldc_w 318, 3) := by decide +kernel
theorem dX11_placeOf_30 : decode cX11_placeOf 30 = .ok (.invokespecial 213, 3) := by decide +kernel
theorem dX11_placeOf_33 : decode cX11_placeOf 33 = .ok (.athrow, 1) := by decide +kernel
theorem dX11_placeOf_34 : decode cX11_placeOf 34 = .ok (.iload 4, 2) := by decide +kernel
theorem dX11_placeOf_36 : decode cX11_placeOf 36 = .ok (.ireturn, 1) := by decide +kernel
theorem dX11_freeSeats_0 : decode cX11_freeSeats 0 = .ok (.aload_n 0, 1) := by decide +kernel
theorem dX11_freeSeats_1 : decode cX11_freeSeats 1 = .ok (.iload_n 1, 1) := by decide +kernel
theorem dX11_freeSeats_2 : decode cX11_freeSeats 2 = .ok (.invokevirtual 104, 3) := by decide +kernel
theorem dX11_freeSeats_5 : decode cX11_freeSeats 5 = .ok (.astore_n 3, 1) := by decide +kernel
theorem dX11_freeSeats_6 : decode cX11_freeSeats 6 = .ok (.iload_n 2, 1) := by decide +kernel
theorem dX11_freeSeats_7 : decode cX11_freeSeats 7 = .ok (.invokestatic 88, 3) := by decide +kernel
theorem dX11_freeSeats_10 : decode cX11_freeSeats 10 = .ok (.aload_n 0, 1) := by decide +kernel
theorem dX11_freeSeats_11 : decode cX11_freeSeats 11 = .ok (.aload_n 3, 1) := by decide +kernel
theorem dX11_freeSeats_12 : decode cX11_freeSeats 12 = .ok (.iload_n 2, 1) := by decide +kernel
theorem dX11_freeSeats_13 : decode cX11_freeSeats 13 = .ok (.invokevirtual 257, 3) := by decide +kernel
theorem dX11_freeSeats_16 : decode cX11_freeSeats 16 = .ok (.ireturn, 1) := by decide +kernel
theorem dX11_isSound_0 : decode cX11_isSound 0 = .ok (.iconst 0, 1) := by decide +kernel
theorem dX11_isSound_1 : decode cX11_isSound 1 = .ok (.istore_n 1, 1) := by decide +kernel
theorem dX11_isSound_2 : decode cX11_isSound 2 = .ok (.iload_n 1, 1) := by decide +kernel
theorem dX11_isSound_3 : decode cX11_isSound 3 = .ok (.aload_n 0, 1) := by decide +kernel
theorem dX11_isSound_4 : decode cX11_isSound 4 = .ok (.getfield 12, 3) := by decide +kernel
theorem dX11_isSound_7 : decode cX11_isSound 7 = .ok (.invokevirtual 70, 3) := by decide +kernel
theorem dX11_isSound_10 : decode cX11_isSound 10 = .ok (.if_icmp .ge 29, 3) := by decide +kernel
theorem dX11_isSound_13 : decode cX11_isSound 13 = .ok (.aload_n 0, 1) := by decide +kernel
theorem dX11_isSound_14 : decode cX11_isSound 14 = .ok (.aload_n 0, 1) := by decide +kernel
theorem dX11_isSound_15 : decode cX11_isSound 15 = .ok (.getfield 12, 3) := by decide +kernel
theorem dX11_isSound_18 : decode cX11_isSound 18 = .ok (.iload_n 1, 1) := by decide +kernel
theorem dX11_isSound_19 : decode cX11_isSound 19 = .ok (.invokevirtual 276, 3) := by decide +kernel
theorem dX11_isSound_22 : decode cX11_isSound 22 = .ok (.checkcast 79, 3) := by decide +kernel
theorem dX11_isSound_25 : decode cX11_isSound 25 = .ok (.invokevirtual 387, 3) := by decide +kernel
theorem dX11_isSound_28 : decode cX11_isSound 28 = .ok (.ifCond .ne 5, 3) := by decide +kernel
theorem dX11_isSound_31 : decode cX11_isSound 31 = .ok (.iconst 0, 1) := by decide +kernel
theorem dX11_isSound_32 : decode cX11_isSound 32 = .ok (.ireturn, 1) := by decide +kernel
theorem dX11_isSound_33 : decode cX11_isSound 33 = .ok (.iinc 1 1, 3) := by decide +kernel
theorem dX11_isSound_36 : decode cX11_isSound 36 = .ok (.goto (-34), 3) := by decide +kernel
theorem dX11_isSound_39 : decode cX11_isSound 39 = .ok (.iconst 0, 1) := by decide +kernel
theorem dX11_isSound_40 : decode cX11_isSound 40 = .ok (.istore_n 1, 1) := by decide +kernel
theorem dX11_isSound_41 : decode cX11_isSound 41 = .ok (.iload_n 1, 1) := by decide +kernel
theorem dX11_isSound_42 : decode cX11_isSound 42 = .ok (.aload_n 0, 1) := by decide +kernel
theorem dX11_isSound_43 : decode cX11_isSound 43 = .ok (.getfield 16, 3) := by decide +kernel
theorem dX11_isSound_46 : decode cX11_isSound 46 = .ok (.invokevirtual 70, 3) := by decide +kernel
theorem dX11_isSound_49 : decode cX11_isSound 49 = .ok (.if_icmp .ge 41, 3) := by decide +kernel
theorem dX11_isSound_52 : decode cX11_isSound 52 = .ok (.aload_n 0, 1) := by decide +kernel
theorem dX11_isSound_53 : decode cX11_isSound 53 = .ok (.getfield 16, 3) := by decide +kernel
theorem dX11_isSound_56 : decode cX11_isSound 56 = .ok (.iload_n 1, 1) := by decide +kernel
theorem dX11_isSound_57 : decode cX11_isSound 57 = .ok (.invokevirtual 276, 3) := by decide +kernel
theorem dX11_isSound_60 : decode cX11_isSound 60 = .ok (.checkcast 29, 3) := by decide +kernel
theorem dX11_isSound_63 : decode cX11_isSound 63 = .ok (.astore_n 2, 1) := by decide +kernel
theorem dX11_isSound_64 : decode cX11_isSound 64 = .ok (.aload_n 0, 1) := by decide +kernel
theorem dX11_isSound_65 : decode cX11_isSound 65 = .ok (.aload_n 2, 1) := by decide +kernel
theorem dX11_isSound_66 : decode cX11_isSound 66 = .ok (.invokevirtual 266, 3) := by decide +kernel
theorem dX11_isSound_69 : decode cX11_isSound 69 = .ok (.bipush 18, 2) := by decide +kernel
theorem dX11_isSound_71 : decode cX11_isSound 71 = .ok (.if_icmp .gt 11, 3) := by decide +kernel
theorem dX11_isSound_74 : decode cX11_isSound 74 = .ok (.aload_n 0, 1) := by decide +kernel
theorem dX11_isSound_75 : decode cX11_isSound 75 = .ok (.aload_n 2, 1) := by decide +kernel
theorem dX11_isSound_76 : decode cX11_isSound 76 = .ok (.invokevirtual 391, 3) := by decide +kernel
theorem dX11_isSound_79 : decode cX11_isSound 79 = .ok (.ifCond .ne 5, 3) := by decide +kernel
theorem dX11_isSound_82 : decode cX11_isSound 82 = .ok (.iconst 0, 1) := by decide +kernel
theorem dX11_isSound_83 : decode cX11_isSound 83 = .ok (.ireturn, 1) := by decide +kernel
theorem dX11_isSound_84 : decode cX11_isSound 84 = .ok (.iinc 1 1, 3) := by decide +kernel
theorem dX11_isSound_87 : decode cX11_isSound 87 = .ok (.goto (-46), 3) := by decide +kernel
theorem dX11_isSound_90 : decode cX11_isSound 90 = .ok (.iconst 1, 1) := by decide +kernel
theorem dX11_isSound_91 : decode cX11_isSound 91 = .ok (.ireturn, 1) := by decide +kernel
theorem dX11_isWithin_0 : decode cX11_isWithin 0 = .ok (.iload_n 0, 1) := by decide +kernel
theorem dX11_isWithin_1 : decode cX11_isWithin 1 = .ok (.iload_n 1, 1) := by decide +kernel
theorem dX11_isWithin_2 : decode cX11_isWithin 2 = .ok (.if_icmp .lt 12, 3) := by decide +kernel
theorem dX11_isWithin_5 : decode cX11_isWithin 5 = .ok (.iload_n 0, 1) := by decide +kernel
theorem dX11_isWithin_6 : decode cX11_isWithin 6 = .ok (.iload_n 2, 1) := by decide +kernel
theorem dX11_isWithin_7 : decode cX11_isWithin 7 = .ok (.if_icmp .gt 7, 3) := by decide +kernel
theorem dX11_isWithin_10 : decode cX11_isWithin 10 = .ok (.iconst 1, 1) := by decide +kernel
theorem dX11_isWithin_11 : decode cX11_isWithin 11 = .ok (.goto 4, 3) := by decide +kernel
theorem dX11_isWithin_14 : decode cX11_isWithin 14 = .ok (.iconst 0, 1) := by decide +kernel
theorem dX11_isWithin_15 : decode cX11_isWithin 15 = .ok (.ireturn, 1) := by decide +kernel
theorem dX11_checkMajor_0 : decode cX11_checkMajor 0 = .ok (.iload_n 0, 1) := by decide +kernel
theorem dX11_checkMajor_1 : decode cX11_checkMajor 1 = .ok (.iconst 0, 1) := by decide +kernel
theorem dX11_checkMajor_2 : decode cX11_checkMajor 2 = .ok (.iconst 3, 1) := by decide +kernel
theorem dX11_checkMajor_3 : decode cX11_checkMajor 3 = .ok (.invokestatic 59, 3) := by decide +kernel
theorem dX11_checkMajor_6 : decode cX11_checkMajor 6 = .ok (.ifCond .ne 14, 3) := by decide +kernel
theorem dX11_checkMajor_9 : decode cX11_checkMajor 9 = .ok (.new 63, 3) := by decide +kernel
theorem dX11_checkMajor_12 : decode cX11_checkMajor 12 = .ok (.dup, 1) := by decide +kernel
theorem dX11_checkMajor_13 : decode cX11_checkMajor 13 = .ok (.ldc_w 395, 3) := by decide +kernel
theorem dX11_checkMajor_16 : decode cX11_checkMajor 16 = .ok (.invokespecial 67, 3) := by decide +kernel
theorem dX11_checkMajor_19 : decode cX11_checkMajor 19 = .ok (.athrow, 1) := by decide +kernel
theorem dX11_checkMajor_20 : decode cX11_checkMajor 20 = .ok (.return_, 1) := by decide +kernel
theorem dX11_checkMark_0 : decode cX11_checkMark 0 = .ok (.iload_n 0, 1) := by decide +kernel
theorem dX11_checkMark_1 : decode cX11_checkMark 1 = .ok (.iconst 0, 1) := by decide +kernel
theorem dX11_checkMark_2 : decode cX11_checkMark 2 = .ok (.bipush 100, 2) := by decide +kernel
theorem dX11_checkMark_4 : decode cX11_checkMark 4 = .ok (.invokestatic 59, 3) := by decide +kernel
theorem dX11_checkMark_7 : decode cX11_checkMark 7 = .ok (.ifCond .ne 14, 3) := by decide +kernel
theorem dX11_checkMark_10 : decode cX11_checkMark 10 = .ok (.new 63, 3) := by decide +kernel
theorem dX11_checkMark_13 : decode cX11_checkMark 13 = .ok (.dup, 1) := by decide +kernel
theorem dX11_checkMark_14 : decode cX11_checkMark 14 = .ok (.ldc_w 397, 3) := by decide +kernel
theorem dX11_checkMark_17 : decode cX11_checkMark 17 = .ok (.invokespecial 67, 3) := by decide +kernel
theorem dX11_checkMark_20 : decode cX11_checkMark 20 = .ok (.athrow, 1) := by decide +kernel
theorem dX11_checkMark_21 : decode cX11_checkMark 21 = .ok (.return_, 1) := by decide +kernel
theorem dX11_studentAt_0 : decode cX11_studentAt 0 = .ok (.iload_n 1, 1) := by decide +kernel
theorem dX11_studentAt_1 : decode cX11_studentAt 1 = .ok (.ifCond .lt 14, 3) := by decide +kernel
theorem dX11_studentAt_4 : decode cX11_studentAt 4 = .ok (.iload_n 1, 1) := by decide +kernel
theorem dX11_studentAt_5 : decode cX11_studentAt 5 = .ok (.aload_n 0, 1) := by decide +kernel
theorem dX11_studentAt_6 : decode cX11_studentAt 6 = .ok (.getfield 16, 3) := by decide +kernel
theorem dX11_studentAt_9 : decode cX11_studentAt 9 = .ok (.invokevirtual 70, 3) := by decide +kernel
theorem dX11_studentAt_12 : decode cX11_studentAt 12 = .ok (.if_icmp .lt 14, 3) := by decide +kernel
theorem dX11_studentAt_15 : decode cX11_studentAt 15 = .ok (.new 337, 3) := by decide +kernel
theorem dX11_studentAt_18 : decode cX11_studentAt 18 = .ok (.dup, 1) := by decide +kernel
theorem dX11_studentAt_19 : decode cX11_studentAt 19 = .ok (.ldc_w 399, 3) := by decide +kernel
theorem dX11_studentAt_22 : decode cX11_studentAt 22 = .ok (.invokespecial 341, 3) := by decide +kernel
theorem dX11_studentAt_25 : decode cX11_studentAt 25 = .ok (.athrow, 1) := by decide +kernel
theorem dX11_studentAt_26 : decode cX11_studentAt 26 = .ok (.aload_n 0, 1) := by decide +kernel
theorem dX11_studentAt_27 : decode cX11_studentAt 27 = .ok (.getfield 16, 3) := by decide +kernel
theorem dX11_studentAt_30 : decode cX11_studentAt 30 = .ok (.iload_n 1, 1) := by decide +kernel
theorem dX11_studentAt_31 : decode cX11_studentAt 31 = .ok (.invokevirtual 276, 3) := by decide +kernel
theorem dX11_studentAt_34 : decode cX11_studentAt 34 = .ok (.checkcast 29, 3) := by decide +kernel
theorem dX11_studentAt_37 : decode cX11_studentAt 37 = .ok (.areturn, 1) := by decide +kernel
theorem dX11_courseAt_0 : decode cX11_courseAt 0 = .ok (.iload_n 1, 1) := by decide +kernel
theorem dX11_courseAt_1 : decode cX11_courseAt 1 = .ok (.ifCond .lt 14, 3) := by decide +kernel
theorem dX11_courseAt_4 : decode cX11_courseAt 4 = .ok (.iload_n 1, 1) := by decide +kernel
theorem dX11_courseAt_5 : decode cX11_courseAt 5 = .ok (.aload_n 0, 1) := by decide +kernel
theorem dX11_courseAt_6 : decode cX11_courseAt 6 = .ok (.getfield 12, 3) := by decide +kernel
theorem dX11_courseAt_9 : decode cX11_courseAt 9 = .ok (.invokevirtual 70, 3) := by decide +kernel
theorem dX11_courseAt_12 : decode cX11_courseAt 12 = .ok (.if_icmp .lt 14, 3) := by decide +kernel
theorem dX11_courseAt_15 : decode cX11_courseAt 15 = .ok (.new 337, 3) := by decide +kernel
theorem dX11_courseAt_18 : decode cX11_courseAt 18 = .ok (.dup, 1) := by decide +kernel
theorem dX11_courseAt_19 : decode cX11_courseAt 19 = .ok (.ldc_w 401, 3) := by decide +kernel
theorem dX11_courseAt_22 : decode cX11_courseAt 22 = .ok (.invokespecial 341, 3) := by decide +kernel
theorem dX11_courseAt_25 : decode cX11_courseAt 25 = .ok (.athrow, 1) := by decide +kernel
theorem dX11_courseAt_26 : decode cX11_courseAt 26 = .ok (.aload_n 0, 1) := by decide +kernel
theorem dX11_courseAt_27 : decode cX11_courseAt 27 = .ok (.getfield 12, 3) := by decide +kernel
theorem dX11_courseAt_30 : decode cX11_courseAt 30 = .ok (.iload_n 1, 1) := by decide +kernel
theorem dX11_courseAt_31 : decode cX11_courseAt 31 = .ok (.invokevirtual 276, 3) := by decide +kernel
theorem dX11_courseAt_34 : decode cX11_courseAt 34 = .ok (.checkcast 79, 3) := by decide +kernel
theorem dX11_courseAt_37 : decode cX11_courseAt 37 = .ok (.areturn, 1) := by decide +kernel
theorem dX11_formulaAt_0 : decode cX11_formulaAt 0 = .ok (.iload_n 1, 1) := by decide +kernel
theorem dX11_formulaAt_1 : decode cX11_formulaAt 1 = .ok (.ifCond .lt 14, 3) := by decide +kernel
theorem dX11_formulaAt_4 : decode cX11_formulaAt 4 = .ok (.iload_n 1, 1) := by decide +kernel
theorem dX11_formulaAt_5 : decode cX11_formulaAt 5 = .ok (.aload_n 0, 1) := by decide +kernel
theorem dX11_formulaAt_6 : decode cX11_formulaAt 6 = .ok (.getfield 19, 3) := by decide +kernel
theorem dX11_formulaAt_9 : decode cX11_formulaAt 9 = .ok (.invokevirtual 70, 3) := by decide +kernel
theorem dX11_formulaAt_12 : decode cX11_formulaAt 12 = .ok (.if_icmp .lt 14, 3) := by decide +kernel
theorem dX11_formulaAt_15 : decode cX11_formulaAt 15 = .ok (.new 209, 3) := by decide +kernel
theorem dX11_formulaAt_18 : decode cX11_formulaAt 18 = .ok (.dup, 1) := by decide +kernel
theorem dX11_formulaAt_19 : decode cX11_formulaAt 19 = .ok (.ldc_w 403, 3) := by decide +kernel
theorem dX11_formulaAt_22 : decode cX11_formulaAt 22 = .ok (.invokespecial 213, 3) := by decide +kernel
theorem dX11_formulaAt_25 : decode cX11_formulaAt 25 = .ok (.athrow, 1) := by decide +kernel
theorem dX11_formulaAt_26 : decode cX11_formulaAt 26 = .ok (.aload_n 0, 1) := by decide +kernel
theorem dX11_formulaAt_27 : decode cX11_formulaAt 27 = .ok (.getfield 19, 3) := by decide +kernel
theorem dX11_formulaAt_30 : decode cX11_formulaAt 30 = .ok (.iload_n 1, 1) := by decide +kernel
theorem dX11_formulaAt_31 : decode cX11_formulaAt 31 = .ok (.invokevirtual 276, 3) := by decide +kernel
theorem dX11_formulaAt_34 : decode cX11_formulaAt 34 = .ok (.checkcast 149, 3) := by decide +kernel
theorem dX11_formulaAt_37 : decode cX11_formulaAt 37 = .ok (.areturn, 1) := by decide +kernel
theorem dX11_checkFormulaFits_0 : decode cX11_checkFormulaFits 0 = .ok (.aload_n 0, 1) := by decide +kernel
theorem dX11_checkFormulaFits_1 : decode cX11_checkFormulaFits 1 = .ok (.getfield 19, 3) := by decide +kernel
theorem dX11_checkFormulaFits_4 : decode cX11_checkFormulaFits 4 = .ok (.invokevirtual 70, 3) := by decide +kernel
theorem dX11_checkFormulaFits_7 : decode cX11_checkFormulaFits 7 = .ok (.bipush 60, 2) := by decide +kernel
theorem dX11_checkFormulaFits_9 : decode cX11_checkFormulaFits 9 = .ok (.if_icmp .ge 8, 3) := by decide +kernel
theorem dX11_checkFormulaFits_12 : decode cX11_checkFormulaFits 12 = .ok (.iload_n 1, 1) := by decide +kernel
theorem dX11_checkFormulaFits_13 : decode cX11_checkFormulaFits 13 = .ok (.iconst 5, 1) := by decide +kernel
theorem dX11_checkFormulaFits_14 : decode cX11_checkFormulaFits 14 = .ok (.if_icmp .le 14, 3) := by decide +kernel
theorem dX11_checkFormulaFits_17 : decode cX11_checkFormulaFits 17 = .ok (.new 74, 3) := by decide +kernel
theorem dX11_checkFormulaFits_20 : decode cX11_checkFormulaFits 20 = .ok (.dup, 1) := by decide +kernel
theorem dX11_checkFormulaFits_21 : decode cX11_checkFormulaFits 21 = .ok (.ldc_w 408, 3) := by decide +kernel
theorem dX11_checkFormulaFits_24 : decode cX11_checkFormulaFits 24 = .ok (.invokespecial 78, 3) := by decide +kernel
theorem dX11_checkFormulaFits_27 : decode cX11_checkFormulaFits 27 = .ok (.athrow, 1) := by decide +kernel
theorem dX11_checkFormulaFits_28 : decode cX11_checkFormulaFits 28 = .ok (.return_, 1) := by decide +kernel
theorem dX11_keep_0 : decode cX11_keep 0 = .ok (.aload_n 0, 1) := by decide +kernel
theorem dX11_keep_1 : decode cX11_keep 1 = .ok (.getfield 19, 3) := by decide +kernel
theorem dX11_keep_4 : decode cX11_keep 4 = .ok (.aload_n 1, 1) := by decide +kernel
theorem dX11_keep_5 : decode cX11_keep 5 = .ok (.invokevirtual 84, 3) := by decide +kernel
theorem dX11_keep_8 : decode cX11_keep 8 = .ok (.pop, 1) := by decide +kernel
theorem dX11_keep_9 : decode cX11_keep 9 = .ok (.aload_n 0, 1) := by decide +kernel
theorem dX11_keep_10 : decode cX11_keep 10 = .ok (.getfield 19, 3) := by decide +kernel
theorem dX11_keep_13 : decode cX11_keep 13 = .ok (.invokevirtual 70, 3) := by decide +kernel
theorem dX11_keep_16 : decode cX11_keep 16 = .ok (.iconst 1, 1) := by decide +kernel
theorem dX11_keep_17 : decode cX11_keep 17 = .ok (.isub, 1) := by decide +kernel
theorem dX11_keep_18 : decode cX11_keep 18 = .ok (.ireturn, 1) := by decide +kernel
theorem dX11_truthsFor_0 : decode cX11_truthsFor 0 = .ok (.aload_n 0, 1) := by decide +kernel
theorem dX11_truthsFor_1 : decode cX11_truthsFor 1 = .ok (.aload_n 1, 1) := by decide +kernel
theorem dX11_truthsFor_2 : decode cX11_truthsFor 2 = .ok (.invokevirtual 305, 3) := by decide +kernel
theorem dX11_truthsFor_5 : decode cX11_truthsFor 5 = .ok (.istore_n 2, 1) := by decide +kernel
theorem dX11_truthsFor_6 : decode cX11_truthsFor 6 = .ok (.lconst 0, 1) := by decide +kernel
theorem dX11_truthsFor_7 : decode cX11_truthsFor 7 = .ok (.lstore_n 3, 1) := by decide +kernel
theorem dX11_truthsFor_8 : decode cX11_truthsFor 8 = .ok (.iconst 0, 1) := by decide +kernel
theorem dX11_truthsFor_9 : decode cX11_truthsFor 9 = .ok (.istore 5, 2) := by decide +kernel
theorem dX11_truthsFor_11 : decode cX11_truthsFor 11 = .ok (.iload 5, 2) := by decide +kernel
theorem dX11_truthsFor_13 : decode cX11_truthsFor 13 = .ok (.aload_n 0, 1) := by decide +kernel
theorem dX11_truthsFor_14 : decode cX11_truthsFor 14 = .ok (.getfield 19, 3) := by decide +kernel
theorem dX11_truthsFor_17 : decode cX11_truthsFor 17 = .ok (.invokevirtual 70, 3) := by decide +kernel
theorem dX11_truthsFor_20 : decode cX11_truthsFor 20 = .ok (.if_icmp .ge 37, 3) := by decide +kernel
theorem dX11_truthsFor_23 : decode cX11_truthsFor 23 = .ok (.aload_n 0, 1) := by decide +kernel
theorem dX11_truthsFor_24 : decode cX11_truthsFor 24 = .ok (.getfield 19, 3) := by decide +kernel
theorem dX11_truthsFor_27 : decode cX11_truthsFor 27 = .ok (.iload 5, 2) := by decide +kernel
theorem dX11_truthsFor_29 : decode cX11_truthsFor 29 = .ok (.invokevirtual 276, 3) := by decide +kernel
theorem dX11_truthsFor_32 : decode cX11_truthsFor 32 = .ok (.checkcast 149, 3) := by decide +kernel
theorem dX11_truthsFor_35 : decode cX11_truthsFor 35 = .ok (.aload_n 1, 1) := by decide +kernel
theorem dX11_truthsFor_36 : decode cX11_truthsFor 36 = .ok (.iload_n 2, 1) := by decide +kernel
theorem dX11_truthsFor_37 : decode cX11_truthsFor 37 = .ok (.lload_n 3, 1) := by decide +kernel
theorem dX11_truthsFor_38 : decode cX11_truthsFor 38 = .ok (.invokevirtual 410, 3) := by decide +kernel
theorem dX11_truthsFor_41 : decode cX11_truthsFor 41 = .ok (.ifCond .eq 10, 3) := by decide +kernel
theorem dX11_truthsFor_44 : decode cX11_truthsFor 44 = .ok (.lload_n 3, 1) := by decide +kernel
theorem dX11_truthsFor_45 : decode cX11_truthsFor 45 = .ok (.lconst 1, 1) := by decide +kernel
theorem dX11_truthsFor_46 : decode cX11_truthsFor 46 = .ok (.iload 5, 2) := by decide +kernel
theorem dX11_truthsFor_48 : decode cX11_truthsFor 48 = .ok (.lshl, 1) := by decide +kernel
theorem dX11_truthsFor_49 : decode cX11_truthsFor 49 = .ok (.lor, 1) := by decide +kernel
theorem dX11_truthsFor_50 : decode cX11_truthsFor 50 = .ok (.lstore_n 3, 1) := by decide +kernel
theorem dX11_truthsFor_51 : decode cX11_truthsFor 51 = .ok (.iinc 5 1, 3) := by decide +kernel
theorem dX11_truthsFor_54 : decode cX11_truthsFor 54 = .ok (.goto (-43), 3) := by decide +kernel
theorem dX11_truthsFor_57 : decode cX11_truthsFor 57 = .ok (.lload_n 3, 1) := by decide +kernel
theorem dX11_truthsFor_58 : decode cX11_truthsFor 58 = .ok (.lreturn, 1) := by decide +kernel
theorem dX11_isMet_0 : decode cX11_isMet 0 = .ok (.iload_n 0, 1) := by decide +kernel
theorem dX11_isMet_1 : decode cX11_isMet 1 = .ok (.iconst (-1), 1) := by decide +kernel
theorem dX11_isMet_2 : decode cX11_isMet 2 = .ok (.if_icmp .eq 13, 3) := by decide +kernel
theorem dX11_isMet_5 : decode cX11_isMet 5 = .ok (.lload_n 1, 1) := by decide +kernel
theorem dX11_isMet_6 : decode cX11_isMet 6 = .ok (.iload_n 0, 1) := by decide +kernel
theorem dX11_isMet_7 : decode cX11_isMet 7 = .ok (.lushr, 1) := by decide +kernel
theorem dX11_isMet_8 : decode cX11_isMet 8 = .ok (.lconst 1, 1) := by decide +kernel
theorem dX11_isMet_9 : decode cX11_isMet 9 = .ok (.land, 1) := by decide +kernel
theorem dX11_isMet_10 : decode cX11_isMet 10 = .ok (.lconst 0, 1) := by decide +kernel
theorem dX11_isMet_11 : decode cX11_isMet 11 = .ok (.lcmp, 1) := by decide +kernel
theorem dX11_isMet_12 : decode cX11_isMet 12 = .ok (.ifCond .eq 7, 3) := by decide +kernel
theorem dX11_isMet_15 : decode cX11_isMet 15 = .ok (.iconst 1, 1) := by decide +kernel
theorem dX11_isMet_16 : decode cX11_isMet 16 = .ok (.goto 4, 3) := by decide +kernel
theorem dX11_isMet_19 : decode cX11_isMet 19 = .ok (.iconst 0, 1) := by decide +kernel
theorem dX11_isMet_20 : decode cX11_isMet 20 = .ok (.ireturn, 1) := by decide +kernel
theorem dX11_requisiteHolds_0 : decode cX11_requisiteHolds 0 = .ok (.aload_n 2, 1) := by decide +kernel
theorem dX11_requisiteHolds_1 : decode cX11_requisiteHolds 1 = .ok (.getfield 175, 3) := by decide +kernel
theorem dX11_requisiteHolds_4 : decode cX11_requisiteHolds 4 = .ok (.iconst (-1), 1) := by decide +kernel
theorem dX11_requisiteHolds_5 : decode cX11_requisiteHolds 5 = .ok (.if_icmp .eq 18, 3) := by decide +kernel
theorem dX11_requisiteHolds_8 : decode cX11_requisiteHolds 8 = .ok (.aload_n 2, 1) := by decide +kernel
theorem dX11_requisiteHolds_9 : decode cX11_requisiteHolds 9 = .ok (.getfield 175, 3) := by decide +kernel
theorem dX11_requisiteHolds_12 : decode cX11_requisiteHolds 12 = .ok (.aload_n 0, 1) := by decide +kernel
theorem dX11_requisiteHolds_13 : decode cX11_requisiteHolds 13 = .ok (.aload_n 1, 1) := by decide +kernel
theorem dX11_requisiteHolds_14 : decode cX11_requisiteHolds 14 = .ok (.invokevirtual 167, 3) := by decide +kernel
theorem dX11_requisiteHolds_17 : decode cX11_requisiteHolds 17 = .ok (.invokestatic 171, 3) := by decide +kernel
theorem dX11_requisiteHolds_20 : decode cX11_requisiteHolds 20 = .ok (.ifCond .eq 7, 3) := by decide +kernel
theorem dX11_requisiteHolds_23 : decode cX11_requisiteHolds 23 = .ok (.iconst 1, 1) := by decide +kernel
theorem dX11_requisiteHolds_24 : decode cX11_requisiteHolds 24 = .ok (.goto 4, 3) := by decide +kernel
theorem dX11_requisiteHolds_27 : decode cX11_requisiteHolds 27 = .ok (.iconst 0, 1) := by decide +kernel
theorem dX11_requisiteHolds_28 : decode cX11_requisiteHolds 28 = .ok (.ireturn, 1) := by decide +kernel
theorem dX11_creditsEarned_0 : decode cX11_creditsEarned 0 = .ok (.iconst 0, 1) := by decide +kernel
theorem dX11_creditsEarned_1 : decode cX11_creditsEarned 1 = .ok (.istore_n 2, 1) := by decide +kernel
theorem dX11_creditsEarned_2 : decode cX11_creditsEarned 2 = .ok (.iconst 0, 1) := by decide +kernel
theorem dX11_creditsEarned_3 : decode cX11_creditsEarned 3 = .ok (.istore_n 3, 1) := by decide +kernel
theorem dX11_creditsEarned_4 : decode cX11_creditsEarned 4 = .ok (.iload_n 3, 1) := by decide +kernel
theorem dX11_creditsEarned_5 : decode cX11_creditsEarned 5 = .ok (.aload_n 0, 1) := by decide +kernel
theorem dX11_creditsEarned_6 : decode cX11_creditsEarned 6 = .ok (.getfield 12, 3) := by decide +kernel
theorem dX11_creditsEarned_9 : decode cX11_creditsEarned 9 = .ok (.invokevirtual 70, 3) := by decide +kernel
theorem dX11_creditsEarned_12 : decode cX11_creditsEarned 12 = .ok (.if_icmp .ge 34, 3) := by decide +kernel
theorem dX11_creditsEarned_15 : decode cX11_creditsEarned 15 = .ok (.aload_n 1, 1) := by decide +kernel
theorem dX11_creditsEarned_16 : decode cX11_creditsEarned 16 = .ok (.iload_n 3, 1) := by decide +kernel
theorem dX11_creditsEarned_17 : decode cX11_creditsEarned 17 = .ok (.invokevirtual 283, 3) := by decide +kernel
theorem dX11_creditsEarned_20 : decode cX11_creditsEarned 20 = .ok (.ifCond .eq 20, 3) := by decide +kernel
theorem dX11_creditsEarned_23 : decode cX11_creditsEarned 23 = .ok (.iload_n 2, 1) := by decide +kernel
theorem dX11_creditsEarned_24 : decode cX11_creditsEarned 24 = .ok (.aload_n 0, 1) := by decide +kernel
theorem dX11_creditsEarned_25 : decode cX11_creditsEarned 25 = .ok (.getfield 12, 3) := by decide +kernel
theorem dX11_creditsEarned_28 : decode cX11_creditsEarned 28 = .ok (.iload_n 3, 1) := by decide +kernel
theorem dX11_creditsEarned_29 : decode cX11_creditsEarned 29 = .ok (.invokevirtual 276, 3) := by decide +kernel
theorem dX11_creditsEarned_32 : decode cX11_creditsEarned 32 = .ok (.checkcast 79, 3) := by decide +kernel
theorem dX11_creditsEarned_35 : decode cX11_creditsEarned 35 = .ok (.getfield 292, 3) := by decide +kernel
theorem dX11_creditsEarned_38 : decode cX11_creditsEarned 38 = .ok (.iadd, 1) := by decide +kernel
theorem dX11_creditsEarned_39 : decode cX11_creditsEarned 39 = .ok (.istore_n 2, 1) := by decide +kernel
theorem dX11_creditsEarned_40 : decode cX11_creditsEarned 40 = .ok (.iinc 3 1, 3) := by decide +kernel
theorem dX11_creditsEarned_43 : decode cX11_creditsEarned 43 = .ok (.goto (-39), 3) := by decide +kernel
theorem dX11_creditsEarned_46 : decode cX11_creditsEarned 46 = .ok (.iload_n 2, 1) := by decide +kernel
theorem dX11_creditsEarned_47 : decode cX11_creditsEarned 47 = .ok (.ireturn, 1) := by decide +kernel
theorem dX11_creditsMovedIn_0 : decode cX11_creditsMovedIn 0 = .ok (.iconst 0, 1) := by decide +kernel
theorem dX11_creditsMovedIn_1 : decode cX11_creditsMovedIn 1 = .ok (.istore_n 2, 1) := by decide +kernel
end
section
theorem dX11_creditsMovedIn_2 : decode cX11_creditsMovedIn 2 = .ok (.iconst 0, 1) := by decide +kernel
theorem dX11_creditsMovedIn_3 : decode cX11_creditsMovedIn 3 = .ok (.istore_n 3, 1) := by decide +kernel
theorem dX11_creditsMovedIn_4 : decode cX11_creditsMovedIn 4 = .ok (.iload_n 3, 1) := by decide +kernel
theorem dX11_creditsMovedIn_5 : decode cX11_creditsMovedIn 5 = .ok (.aload_n 0, 1) := by decide +kernel
theorem dX11_creditsMovedIn_6 : decode cX11_creditsMovedIn 6 = .ok (.getfield 12, 3) := by decide +kernel
theorem dX11_creditsMovedIn_9 : decode cX11_creditsMovedIn 9 = .ok (.invokevirtual 70, 3) := by decide +kernel
theorem dX11_creditsMovedIn_12 : decode cX11_creditsMovedIn 12 = .ok (.if_icmp .ge 35, 3) := by decide +kernel
theorem dX11_creditsMovedIn_15 : decode cX11_creditsMovedIn 15 = .ok (.aload_n 1, 1) := by decide +kernel
theorem dX11_creditsMovedIn_16 : decode cX11_creditsMovedIn 16 = .ok (.getfield 425, 3) := by decide +kernel
theorem dX11_creditsMovedIn_19 : decode cX11_creditsMovedIn 19 = .ok (.iload_n 3, 1) := by decide +kernel
theorem dX11_creditsMovedIn_20 : decode cX11_creditsMovedIn 20 = .ok (.baload, 1) := by decide +kernel
theorem dX11_creditsMovedIn_21 : decode cX11_creditsMovedIn 21 = .ok (.ifCond .eq 20, 3) := by decide +kernel
theorem dX11_creditsMovedIn_24 : decode cX11_creditsMovedIn 24 = .ok (.iload_n 2, 1) := by decide +kernel
theorem dX11_creditsMovedIn_25 : decode cX11_creditsMovedIn 25 = .ok (.aload_n 0, 1) := by decide +kernel
theorem dX11_creditsMovedIn_26 : decode cX11_creditsMovedIn 26 = .ok (.getfield 12, 3) := by decide +kernel
theorem dX11_creditsMovedIn_29 : decode cX11_creditsMovedIn 29 = .ok (.iload_n 3, 1) := by decide +kernel
theorem dX11_creditsMovedIn_30 : decode cX11_creditsMovedIn 30 = .ok (.invokevirtual 276, 3) := by decide +kernel
theorem dX11_creditsMovedIn_33 : decode cX11_creditsMovedIn 33 = .ok (.checkcast 79, 3) := by decide +kernel
theorem dX11_creditsMovedIn_36 : decode cX11_creditsMovedIn 36 = .ok (.getfield 292, 3) := by decide +kernel
theorem dX11_creditsMovedIn_39 : decode cX11_creditsMovedIn 39 = .ok (.iadd, 1) := by decide +kernel
theorem dX11_creditsMovedIn_40 : decode cX11_creditsMovedIn 40 = .ok (.istore_n 2, 1) := by decide +kernel
theorem dX11_creditsMovedIn_41 : decode cX11_creditsMovedIn 41 = .ok (.iinc 3 1, 3) := by decide +kernel
theorem dX11_creditsMovedIn_44 : decode cX11_creditsMovedIn 44 = .ok (.goto (-40), 3) := by decide +kernel
theorem dX11_creditsMovedIn_47 : decode cX11_creditsMovedIn 47 = .ok (.iload_n 2, 1) := by decide +kernel
theorem dX11_creditsMovedIn_48 : decode cX11_creditsMovedIn 48 = .ok (.ireturn, 1) := by decide +kernel
theorem dX11_loadOn_0 : decode cX11_loadOn 0 = .ok (.iconst 0, 1) := by decide +kernel
theorem dX11_loadOn_1 : decode cX11_loadOn 1 = .ok (.istore_n 2, 1) := by decide +kernel
theorem dX11_loadOn_2 : decode cX11_loadOn 2 = .ok (.iconst 0, 1) := by decide +kernel
theorem dX11_loadOn_3 : decode cX11_loadOn 3 = .ok (.istore_n 3, 1) := by decide +kernel
theorem dX11_loadOn_4 : decode cX11_loadOn 4 = .ok (.iload_n 3, 1) := by decide +kernel
theorem dX11_loadOn_5 : decode cX11_loadOn 5 = .ok (.aload_n 0, 1) := by decide +kernel
theorem dX11_loadOn_6 : decode cX11_loadOn 6 = .ok (.getfield 12, 3) := by decide +kernel
theorem dX11_loadOn_9 : decode cX11_loadOn 9 = .ok (.invokevirtual 70, 3) := by decide +kernel
theorem dX11_loadOn_12 : decode cX11_loadOn 12 = .ok (.if_icmp .ge 35, 3) := by decide +kernel
theorem dX11_loadOn_15 : decode cX11_loadOn 15 = .ok (.aload_n 1, 1) := by decide +kernel
theorem dX11_loadOn_16 : decode cX11_loadOn 16 = .ok (.getfield 214, 3) := by decide +kernel
theorem dX11_loadOn_19 : decode cX11_loadOn 19 = .ok (.iload_n 3, 1) := by decide +kernel
theorem dX11_loadOn_20 : decode cX11_loadOn 20 = .ok (.baload, 1) := by decide +kernel
theorem dX11_loadOn_21 : decode cX11_loadOn 21 = .ok (.ifCond .eq 20, 3) := by decide +kernel
theorem dX11_loadOn_24 : decode cX11_loadOn 24 = .ok (.iload_n 2, 1) := by decide +kernel
theorem dX11_loadOn_25 : decode cX11_loadOn 25 = .ok (.aload_n 0, 1) := by decide +kernel
theorem dX11_loadOn_26 : decode cX11_loadOn 26 = .ok (.getfield 12, 3) := by decide +kernel
theorem dX11_loadOn_29 : decode cX11_loadOn 29 = .ok (.iload_n 3, 1) := by decide +kernel
theorem dX11_loadOn_30 : decode cX11_loadOn 30 = .ok (.invokevirtual 276, 3) := by decide +kernel
theorem dX11_loadOn_33 : decode cX11_loadOn 33 = .ok (.checkcast 79, 3) := by decide +kernel
theorem dX11_loadOn_36 : decode cX11_loadOn 36 = .ok (.getfield 292, 3) := by decide +kernel
theorem dX11_loadOn_39 : decode cX11_loadOn 39 = .ok (.iadd, 1) := by decide +kernel
theorem dX11_loadOn_40 : decode cX11_loadOn 40 = .ok (.istore_n 2, 1) := by decide +kernel
theorem dX11_loadOn_41 : decode cX11_loadOn 41 = .ok (.iinc 3 1, 3) := by decide +kernel
theorem dX11_loadOn_44 : decode cX11_loadOn 44 = .ok (.goto (-40), 3) := by decide +kernel
theorem dX11_loadOn_47 : decode cX11_loadOn 47 = .ok (.iload_n 2, 1) := by decide +kernel
theorem dX11_loadOn_48 : decode cX11_loadOn 48 = .ok (.ireturn, 1) := by decide +kernel
theorem dX11_canBear_0 : decode cX11_canBear 0 = .ok (.aload_n 0, 1) := by decide +kernel
theorem dX11_canBear_1 : decode cX11_canBear 1 = .ok (.aload_n 1, 1) := by decide +kernel
theorem dX11_canBear_2 : decode cX11_canBear 2 = .ok (.invokevirtual 266, 3) := by decide +kernel
theorem dX11_canBear_5 : decode cX11_canBear 5 = .ok (.aload_n 2, 1) := by decide +kernel
theorem dX11_canBear_6 : decode cX11_canBear 6 = .ok (.getfield 292, 3) := by decide +kernel
theorem dX11_canBear_9 : decode cX11_canBear 9 = .ok (.iadd, 1) := by decide +kernel
theorem dX11_canBear_10 : decode cX11_canBear 10 = .ok (.bipush 18, 2) := by decide +kernel
theorem dX11_canBear_12 : decode cX11_canBear 12 = .ok (.if_icmp .gt 7, 3) := by decide +kernel
theorem dX11_canBear_15 : decode cX11_canBear 15 = .ok (.iconst 1, 1) := by decide +kernel
theorem dX11_canBear_16 : decode cX11_canBear 16 = .ok (.goto 4, 3) := by decide +kernel
theorem dX11_canBear_19 : decode cX11_canBear 19 = .ok (.iconst 0, 1) := by decide +kernel
theorem dX11_canBear_20 : decode cX11_canBear 20 = .ok (.ireturn, 1) := by decide +kernel
theorem dX11_takersOf_0 : decode cX11_takersOf 0 = .ok (.iconst 0, 1) := by decide +kernel
theorem dX11_takersOf_1 : decode cX11_takersOf 1 = .ok (.istore_n 2, 1) := by decide +kernel
theorem dX11_takersOf_2 : decode cX11_takersOf 2 = .ok (.iconst 0, 1) := by decide +kernel
theorem dX11_takersOf_3 : decode cX11_takersOf 3 = .ok (.istore_n 3, 1) := by decide +kernel
theorem dX11_takersOf_4 : decode cX11_takersOf 4 = .ok (.iload_n 3, 1) := by decide +kernel
theorem dX11_takersOf_5 : decode cX11_takersOf 5 = .ok (.aload_n 0, 1) := by decide +kernel
theorem dX11_takersOf_6 : decode cX11_takersOf 6 = .ok (.getfield 16, 3) := by decide +kernel
theorem dX11_takersOf_9 : decode cX11_takersOf 9 = .ok (.invokevirtual 70, 3) := by decide +kernel
theorem dX11_takersOf_12 : decode cX11_takersOf 12 = .ok (.if_icmp .ge 34, 3) := by decide +kernel
theorem dX11_takersOf_15 : decode cX11_takersOf 15 = .ok (.aload_n 0, 1) := by decide +kernel
theorem dX11_takersOf_16 : decode cX11_takersOf 16 = .ok (.getfield 16, 3) := by decide +kernel
theorem dX11_takersOf_19 : decode cX11_takersOf 19 = .ok (.iload_n 3, 1) := by decide +kernel
theorem dX11_takersOf_20 : decode cX11_takersOf 20 = .ok (.invokevirtual 276, 3) := by decide +kernel
theorem dX11_takersOf_23 : decode cX11_takersOf 23 = .ok (.checkcast 29, 3) := by decide +kernel
theorem dX11_takersOf_26 : decode cX11_takersOf 26 = .ok (.getfield 214, 3) := by decide +kernel
theorem dX11_takersOf_29 : decode cX11_takersOf 29 = .ok (.aload_n 1, 1) := by decide +kernel
theorem dX11_takersOf_30 : decode cX11_takersOf 30 = .ok (.getfield 428, 3) := by decide +kernel
theorem dX11_takersOf_33 : decode cX11_takersOf 33 = .ok (.baload, 1) := by decide +kernel
theorem dX11_takersOf_34 : decode cX11_takersOf 34 = .ok (.ifCond .eq 6, 3) := by decide +kernel
theorem dX11_takersOf_37 : decode cX11_takersOf 37 = .ok (.iinc 2 1, 3) := by decide +kernel
theorem dX11_takersOf_40 : decode cX11_takersOf 40 = .ok (.iinc 3 1, 3) := by decide +kernel
theorem dX11_takersOf_43 : decode cX11_takersOf 43 = .ok (.goto (-39), 3) := by decide +kernel
theorem dX11_takersOf_46 : decode cX11_takersOf 46 = .ok (.iload_n 2, 1) := by decide +kernel
theorem dX11_takersOf_47 : decode cX11_takersOf 47 = .ok (.ireturn, 1) := by decide +kernel
theorem dX11_takersOfMajor_0 : decode cX11_takersOfMajor 0 = .ok (.iconst 0, 1) := by decide +kernel
theorem dX11_takersOfMajor_1 : decode cX11_takersOfMajor 1 = .ok (.istore_n 3, 1) := by decide +kernel
theorem dX11_takersOfMajor_2 : decode cX11_takersOfMajor 2 = .ok (.iconst 0, 1) := by decide +kernel
theorem dX11_takersOfMajor_3 : decode cX11_takersOfMajor 3 = .ok (.istore 4, 2) := by decide +kernel
theorem dX11_takersOfMajor_5 : decode cX11_takersOfMajor 5 = .ok (.iload 4, 2) := by decide +kernel
theorem dX11_takersOfMajor_7 : decode cX11_takersOfMajor 7 = .ok (.aload_n 0, 1) := by decide +kernel
theorem dX11_takersOfMajor_8 : decode cX11_takersOfMajor 8 = .ok (.getfield 16, 3) := by decide +kernel
theorem dX11_takersOfMajor_11 : decode cX11_takersOfMajor 11 = .ok (.invokevirtual 70, 3) := by decide +kernel
theorem dX11_takersOfMajor_14 : decode cX11_takersOfMajor 14 = .ok (.if_icmp .ge 48, 3) := by decide +kernel
theorem dX11_takersOfMajor_17 : decode cX11_takersOfMajor 17 = .ok (.aload_n 0, 1) := by decide +kernel
theorem dX11_takersOfMajor_18 : decode cX11_takersOfMajor 18 = .ok (.getfield 16, 3) := by decide +kernel
theorem dX11_takersOfMajor_21 : decode cX11_takersOfMajor 21 = .ok (.iload 4, 2) := by decide +kernel
theorem dX11_takersOfMajor_23 : decode cX11_takersOfMajor 23 = .ok (.invokevirtual 276, 3) := by decide +kernel
theorem dX11_takersOfMajor_26 : decode cX11_takersOfMajor 26 = .ok (.checkcast 29, 3) := by decide +kernel
theorem dX11_takersOfMajor_29 : decode cX11_takersOfMajor 29 = .ok (.astore 5, 2) := by decide +kernel
theorem dX11_takersOfMajor_31 : decode cX11_takersOfMajor 31 = .ok (.aload 5, 2) := by decide +kernel
theorem dX11_takersOfMajor_33 : decode cX11_takersOfMajor 33 = .ok (.getfield 214, 3) := by decide +kernel
theorem dX11_takersOfMajor_36 : decode cX11_takersOfMajor 36 = .ok (.aload_n 1, 1) := by decide +kernel
theorem dX11_takersOfMajor_37 : decode cX11_takersOfMajor 37 = .ok (.getfield 428, 3) := by decide +kernel
theorem dX11_takersOfMajor_40 : decode cX11_takersOfMajor 40 = .ok (.baload, 1) := by decide +kernel
theorem dX11_takersOfMajor_41 : decode cX11_takersOfMajor 41 = .ok (.ifCond .eq 15, 3) := by decide +kernel
theorem dX11_takersOfMajor_44 : decode cX11_takersOfMajor 44 = .ok (.aload 5, 2) := by decide +kernel
theorem dX11_takersOfMajor_46 : decode cX11_takersOfMajor 46 = .ok (.getfield 97, 3) := by decide +kernel
theorem dX11_takersOfMajor_49 : decode cX11_takersOfMajor 49 = .ok (.iload_n 2, 1) := by decide +kernel
theorem dX11_takersOfMajor_50 : decode cX11_takersOfMajor 50 = .ok (.if_icmp .ne 6, 3) := by decide +kernel
theorem dX11_takersOfMajor_53 : decode cX11_takersOfMajor 53 = .ok (.iinc 3 1, 3) := by decide +kernel
theorem dX11_takersOfMajor_56 : decode cX11_takersOfMajor 56 = .ok (.iinc 4 1, 3) := by decide +kernel
theorem dX11_takersOfMajor_59 : decode cX11_takersOfMajor 59 = .ok (.goto (-54), 3) := by decide +kernel
theorem dX11_takersOfMajor_62 : decode cX11_takersOfMajor 62 = .ok (.iload_n 3, 1) := by decide +kernel
theorem dX11_takersOfMajor_63 : decode cX11_takersOfMajor 63 = .ok (.ireturn, 1) := by decide +kernel
theorem dX11_freeFor_0 : decode cX11_freeFor 0 = .ok (.aload_n 1, 1) := by decide +kernel
theorem dX11_freeFor_1 : decode cX11_freeFor 1 = .ok (.getfield 113, 3) := by decide +kernel
theorem dX11_freeFor_4 : decode cX11_freeFor 4 = .ok (.aload_n 0, 1) := by decide +kernel
theorem dX11_freeFor_5 : decode cX11_freeFor 5 = .ok (.aload_n 1, 1) := by decide +kernel
theorem dX11_freeFor_6 : decode cX11_freeFor 6 = .ok (.invokevirtual 314, 3) := by decide +kernel
theorem dX11_freeFor_9 : decode cX11_freeFor 9 = .ok (.isub, 1) := by decide +kernel
theorem dX11_freeFor_10 : decode cX11_freeFor 10 = .ok (.istore_n 3, 1) := by decide +kernel
theorem dX11_freeFor_11 : decode cX11_freeFor 11 = .ok (.aload_n 0, 1) := by decide +kernel
theorem dX11_freeFor_12 : decode cX11_freeFor 12 = .ok (.getfield 180, 3) := by decide +kernel
theorem dX11_freeFor_15 : decode cX11_freeFor 15 = .ok (.iconst 3, 1) := by decide +kernel
theorem dX11_freeFor_16 : decode cX11_freeFor 16 = .ok (.if_icmp .gt 46, 3) := by decide +kernel
theorem dX11_freeFor_19 : decode cX11_freeFor 19 = .ok (.iconst 0, 1) := by decide +kernel
theorem dX11_freeFor_20 : decode cX11_freeFor 20 = .ok (.istore 4, 2) := by decide +kernel
theorem dX11_freeFor_22 : decode cX11_freeFor 22 = .ok (.iload 4, 2) := by decide +kernel
theorem dX11_freeFor_24 : decode cX11_freeFor 24 = .ok (.iconst 4, 1) := by decide +kernel
theorem dX11_freeFor_25 : decode cX11_freeFor 25 = .ok (.if_icmp .ge 37, 3) := by decide +kernel
theorem dX11_freeFor_28 : decode cX11_freeFor 28 = .ok (.iload 4, 2) := by decide +kernel
theorem dX11_freeFor_30 : decode cX11_freeFor 30 = .ok (.iload_n 2, 1) := by decide +kernel
theorem dX11_freeFor_31 : decode cX11_freeFor 31 = .ok (.if_icmp .eq 25, 3) := by decide +kernel
theorem dX11_freeFor_34 : decode cX11_freeFor 34 = .ok (.iload_n 3, 1) := by decide +kernel
theorem dX11_freeFor_35 : decode cX11_freeFor 35 = .ok (.iconst 0, 1) := by decide +kernel
theorem dX11_freeFor_36 : decode cX11_freeFor 36 = .ok (.aload_n 1, 1) := by decide +kernel
theorem dX11_freeFor_37 : decode cX11_freeFor 37 = .ok (.getfield 110, 3) := by decide +kernel
theorem dX11_freeFor_40 : decode cX11_freeFor 40 = .ok (.iload 4, 2) := by decide +kernel
theorem dX11_freeFor_42 : decode cX11_freeFor 42 = .ok (.iaload, 1) := by decide +kernel
theorem dX11_freeFor_43 : decode cX11_freeFor 43 = .ok (.aload_n 0, 1) := by decide +kernel
theorem dX11_freeFor_44 : decode cX11_freeFor 44 = .ok (.aload_n 1, 1) := by decide +kernel
theorem dX11_freeFor_45 : decode cX11_freeFor 45 = .ok (.iload 4, 2) := by decide +kernel
theorem dX11_freeFor_47 : decode cX11_freeFor 47 = .ok (.invokevirtual 431, 3) := by decide +kernel
theorem dX11_freeFor_50 : decode cX11_freeFor 50 = .ok (.isub, 1) := by decide +kernel
theorem dX11_freeFor_51 : decode cX11_freeFor 51 = .ok (.invokestatic 153, 3) := by decide +kernel
theorem dX11_freeFor_54 : decode cX11_freeFor 54 = .ok (.isub, 1) := by decide +kernel
theorem dX11_freeFor_55 : decode cX11_freeFor 55 = .ok (.istore_n 3, 1) := by decide +kernel
theorem dX11_freeFor_56 : decode cX11_freeFor 56 = .ok (.iinc 4 1, 3) := by decide +kernel
theorem dX11_freeFor_59 : decode cX11_freeFor 59 = .ok (.goto (-37), 3) := by decide +kernel
theorem dX11_freeFor_62 : decode cX11_freeFor 62 = .ok (.iconst 0, 1) := by decide +kernel
theorem dX11_freeFor_63 : decode cX11_freeFor 63 = .ok (.iload_n 3, 1) := by decide +kernel
theorem dX11_freeFor_64 : decode cX11_freeFor 64 = .ok (.invokestatic 153, 3) := by decide +kernel
theorem dX11_freeFor_67 : decode cX11_freeFor 67 = .ok (.ireturn, 1) := by decide +kernel
theorem dX11_letterFor_0 : decode cX11_letterFor 0 = .ok (.aload_n 0, 1) := by decide +kernel
theorem dX11_letterFor_1 : decode cX11_letterFor 1 = .ok (.getfield 180, 3) := by decide +kernel
theorem dX11_letterFor_4 : decode cX11_letterFor 4 = .ok (.iconst 5, 1) := by decide +kernel
theorem dX11_letterFor_5 : decode cX11_letterFor 5 = .ok (.if_icmp .le 6, 3) := by decide +kernel
theorem dX11_letterFor_8 : decode cX11_letterFor 8 = .ok (.bipush 100, 2) := by decide +kernel
theorem dX11_letterFor_10 : decode cX11_letterFor 10 = .ok (.ireturn, 1) := by decide +kernel
theorem dX11_letterFor_11 : decode cX11_letterFor 11 = .ok (.aload_n 1, 1) := by decide +kernel
theorem dX11_letterFor_12 : decode cX11_letterFor 12 = .ok (.getfield 214, 3) := by decide +kernel
theorem dX11_letterFor_15 : decode cX11_letterFor 15 = .ok (.aload_n 2, 1) := by decide +kernel
theorem dX11_letterFor_16 : decode cX11_letterFor 16 = .ok (.getfield 428, 3) := by decide +kernel
theorem dX11_letterFor_19 : decode cX11_letterFor 19 = .ok (.baload, 1) := by decide +kernel
theorem dX11_letterFor_20 : decode cX11_letterFor 20 = .ok (.ifCond .ne 12, 3) := by decide +kernel
theorem dX11_letterFor_23 : decode cX11_letterFor 23 = .ok (.aload_n 2, 1) := by decide +kernel
theorem dX11_letterFor_24 : decode cX11_letterFor 24 = .ok (.aload_n 1, 1) := by decide +kernel
theorem dX11_letterFor_25 : decode cX11_letterFor 25 = .ok (.invokevirtual 220, 3) := by decide +kernel
theorem dX11_letterFor_28 : decode cX11_letterFor 28 = .ok (.iconst (-1), 1) := by decide +kernel
theorem dX11_letterFor_29 : decode cX11_letterFor 29 = .ok (.if_icmp .eq 6, 3) := by decide +kernel
theorem dX11_letterFor_32 : decode cX11_letterFor 32 = .ok (.bipush 105, 2) := by decide +kernel
theorem dX11_letterFor_34 : decode cX11_letterFor 34 = .ok (.ireturn, 1) := by decide +kernel
theorem dX11_letterFor_35 : decode cX11_letterFor 35 = .ok (.aload_n 0, 1) := by decide +kernel
theorem dX11_letterFor_36 : decode cX11_letterFor 36 = .ok (.aload_n 1, 1) := by decide +kernel
theorem dX11_letterFor_37 : decode cX11_letterFor 37 = .ok (.aload_n 2, 1) := by decide +kernel
theorem dX11_letterFor_38 : decode cX11_letterFor 38 = .ok (.invokevirtual 250, 3) := by decide +kernel
theorem dX11_letterFor_41 : decode cX11_letterFor 41 = .ok (.ifCond .ne 6, 3) := by decide +kernel
theorem dX11_letterFor_44 : decode cX11_letterFor 44 = .ok (.bipush 114, 2) := by decide +kernel
theorem dX11_letterFor_46 : decode cX11_letterFor 46 = .ok (.ireturn, 1) := by decide +kernel
theorem dX11_letterFor_47 : decode cX11_letterFor 47 = .ok (.aload_n 1, 1) := by decide +kernel
theorem dX11_letterFor_48 : decode cX11_letterFor 48 = .ok (.getfield 254, 3) := by decide +kernel
theorem dX11_letterFor_51 : decode cX11_letterFor 51 = .ok (.aload_n 2, 1) := by decide +kernel
theorem dX11_letterFor_52 : decode cX11_letterFor 52 = .ok (.getfield 428, 3) := by decide +kernel
theorem dX11_letterFor_55 : decode cX11_letterFor 55 = .ok (.iaload, 1) := by decide +kernel
theorem dX11_letterFor_56 : decode cX11_letterFor 56 = .ok (.iconst 3, 1) := by decide +kernel
theorem dX11_letterFor_57 : decode cX11_letterFor 57 = .ok (.if_icmp .lt 6, 3) := by decide +kernel
theorem dX11_letterFor_60 : decode cX11_letterFor 60 = .ok (.bipush 97, 2) := by decide +kernel
theorem dX11_letterFor_62 : decode cX11_letterFor 62 = .ok (.ireturn, 1) := by decide +kernel
theorem dX11_letterFor_63 : decode cX11_letterFor 63 = .ok (.aload_n 0, 1) := by decide +kernel
theorem dX11_letterFor_64 : decode cX11_letterFor 64 = .ok (.aload_n 1, 1) := by decide +kernel
theorem dX11_letterFor_65 : decode cX11_letterFor 65 = .ok (.aload_n 2, 1) := by decide +kernel
theorem dX11_letterFor_66 : decode cX11_letterFor 66 = .ok (.invokevirtual 261, 3) := by decide +kernel
theorem dX11_letterFor_69 : decode cX11_letterFor 69 = .ok (.ifCond .ne 6, 3) := by decide +kernel
theorem dX11_letterFor_72 : decode cX11_letterFor 72 = .ok (.bipush 99, 2) := by decide +kernel
theorem dX11_letterFor_74 : decode cX11_letterFor 74 = .ok (.ireturn, 1) := by decide +kernel
theorem dX11_letterFor_75 : decode cX11_letterFor 75 = .ok (.aload_n 0, 1) := by decide +kernel
theorem dX11_letterFor_76 : decode cX11_letterFor 76 = .ok (.aload_n 2, 1) := by decide +kernel
theorem dX11_letterFor_77 : decode cX11_letterFor 77 = .ok (.aload_n 1, 1) := by decide +kernel
theorem dX11_letterFor_78 : decode cX11_letterFor 78 = .ok (.getfield 97, 3) := by decide +kernel
theorem dX11_letterFor_81 : decode cX11_letterFor 81 = .ok (.invokevirtual 257, 3) := by decide +kernel
theorem dX11_letterFor_84 : decode cX11_letterFor 84 = .ok (.ifCond .le 6, 3) := by decide +kernel
theorem dX11_letterFor_87 : decode cX11_letterFor 87 = .ok (.bipush 101, 2) := by decide +kernel
theorem dX11_letterFor_89 : decode cX11_letterFor 89 = .ok (.ireturn, 1) := by decide +kernel
theorem dX11_letterFor_90 : decode cX11_letterFor 90 = .ok (.aload_n 2, 1) := by decide +kernel
theorem dX11_letterFor_91 : decode cX11_letterFor 91 = .ok (.getfield 217, 3) := by decide +kernel
theorem dX11_letterFor_94 : decode cX11_letterFor 94 = .ok (.invokevirtual 70, 3) := by decide +kernel
theorem dX11_letterFor_97 : decode cX11_letterFor 97 = .ok (.bipush 6, 2) := by decide +kernel
theorem dX11_letterFor_99 : decode cX11_letterFor 99 = .ok (.if_icmp .lt 8, 3) := by decide +kernel
theorem dX11_letterFor_102 : decode cX11_letterFor 102 = .ok (.bipush 102, 2) := by decide +kernel
theorem dX11_letterFor_104 : decode cX11_letterFor 104 = .ok (.goto 5, 3) := by decide +kernel
theorem dX11_letterFor_107 : decode cX11_letterFor 107 = .ok (.bipush 119, 2) := by decide +kernel
theorem dX11_letterFor_109 : decode cX11_letterFor 109 = .ok (.ireturn, 1) := by decide +kernel
theorem dX11_canTakeSeat_0 : decode cX11_canTakeSeat 0 = .ok (.aload_n 0, 1) := by decide +kernel
theorem dX11_canTakeSeat_1 : decode cX11_canTakeSeat 1 = .ok (.aload_n 2, 1) := by decide +kernel
theorem dX11_canTakeSeat_2 : decode cX11_canTakeSeat 2 = .ok (.aload_n 1, 1) := by decide +kernel
theorem dX11_canTakeSeat_3 : decode cX11_canTakeSeat 3 = .ok (.getfield 97, 3) := by decide +kernel
theorem dX11_canTakeSeat_6 : decode cX11_canTakeSeat 6 = .ok (.invokevirtual 257, 3) := by decide +kernel
theorem dX11_canTakeSeat_9 : decode cX11_canTakeSeat 9 = .ok (.ifCond .le 25, 3) := by decide +kernel
theorem dX11_canTakeSeat_12 : decode cX11_canTakeSeat 12 = .ok (.aload_n 0, 1) := by decide +kernel
theorem dX11_canTakeSeat_13 : decode cX11_canTakeSeat 13 = .ok (.aload_n 1, 1) := by decide +kernel
theorem dX11_canTakeSeat_14 : decode cX11_canTakeSeat 14 = .ok (.aload_n 2, 1) := by decide +kernel
theorem dX11_canTakeSeat_15 : decode cX11_canTakeSeat 15 = .ok (.invokevirtual 261, 3) := by decide +kernel
theorem dX11_canTakeSeat_18 : decode cX11_canTakeSeat 18 = .ok (.ifCond .eq 16, 3) := by decide +kernel
theorem dX11_canTakeSeat_21 : decode cX11_canTakeSeat 21 = .ok (.aload_n 0, 1) := by decide +kernel
theorem dX11_canTakeSeat_22 : decode cX11_canTakeSeat 22 = .ok (.aload_n 1, 1) := by decide +kernel
theorem dX11_canTakeSeat_23 : decode cX11_canTakeSeat 23 = .ok (.aload_n 2, 1) := by decide +kernel
theorem dX11_canTakeSeat_24 : decode cX11_canTakeSeat 24 = .ok (.invokevirtual 250, 3) := by decide +kernel
theorem dX11_canTakeSeat_27 : decode cX11_canTakeSeat 27 = .ok (.ifCond .eq 7, 3) := by decide +kernel
theorem dX11_canTakeSeat_30 : decode cX11_canTakeSeat 30 = .ok (.iconst 1, 1) := by decide +kernel
theorem dX11_canTakeSeat_31 : decode cX11_canTakeSeat 31 = .ok (.goto 4, 3) := by decide +kernel
theorem dX11_canTakeSeat_34 : decode cX11_canTakeSeat 34 = .ok (.iconst 0, 1) := by decide +kernel
theorem dX11_canTakeSeat_35 : decode cX11_canTakeSeat 35 = .ok (.ireturn, 1) := by decide +kernel
theorem dX11_giveOutSeats_0 : decode cX11_giveOutSeats 0 = .ok (.aload_n 0, 1) := by decide +kernel
theorem dX11_giveOutSeats_1 : decode cX11_giveOutSeats 1 = .ok (.getfield 180, 3) := by decide +kernel
theorem dX11_giveOutSeats_4 : decode cX11_giveOutSeats 4 = .ok (.iconst 5, 1) := by decide +kernel
theorem dX11_giveOutSeats_5 : decode cX11_giveOutSeats 5 = .ok (.if_icmp .le 4, 3) := by decide +kernel
theorem dX11_giveOutSeats_8 : decode cX11_giveOutSeats 8 = .ok (.return_, 1) := by decide +kernel
theorem dX11_giveOutSeats_9 : decode cX11_giveOutSeats 9 = .ok (.iconst 0, 1) := by decide +kernel
theorem dX11_giveOutSeats_10 : decode cX11_giveOutSeats 10 = .ok (.istore_n 1, 1) := by decide +kernel
theorem dX11_giveOutSeats_11 : decode cX11_giveOutSeats 11 = .ok (.iconst 0, 1) := by decide +kernel
theorem dX11_giveOutSeats_12 : decode cX11_giveOutSeats 12 = .ok (.istore_n 2, 1) := by decide +kernel
theorem dX11_giveOutSeats_13 : decode cX11_giveOutSeats 13 = .ok (.iload_n 2, 1) := by decide +kernel
theorem dX11_giveOutSeats_14 : decode cX11_giveOutSeats 14 = .ok (.sipush 2420, 3) := by decide +kernel
theorem dX11_giveOutSeats_17 : decode cX11_giveOutSeats 17 = .ok (.if_icmp .ge 46, 3) := by decide +kernel
theorem dX11_giveOutSeats_20 : decode cX11_giveOutSeats 20 = .ok (.iload_n 1, 1) := by decide +kernel
theorem dX11_giveOutSeats_21 : decode cX11_giveOutSeats 21 = .ok (.aload_n 0, 1) := by decide +kernel
theorem dX11_giveOutSeats_22 : decode cX11_giveOutSeats 22 = .ok (.getfield 12, 3) := by decide +kernel
theorem dX11_giveOutSeats_25 : decode cX11_giveOutSeats 25 = .ok (.invokevirtual 70, 3) := by decide +kernel
theorem dX11_giveOutSeats_28 : decode cX11_giveOutSeats 28 = .ok (.if_icmp .ge 35, 3) := by decide +kernel
theorem dX11_giveOutSeats_31 : decode cX11_giveOutSeats 31 = .ok (.aload_n 0, 1) := by decide +kernel
theorem dX11_giveOutSeats_32 : decode cX11_giveOutSeats 32 = .ok (.aload_n 0, 1) := by decide +kernel
theorem dX11_giveOutSeats_33 : decode cX11_giveOutSeats 33 = .ok (.getfield 12, 3) := by decide +kernel
theorem dX11_giveOutSeats_36 : decode cX11_giveOutSeats 36 = .ok (.iload_n 1, 1) := by decide +kernel
theorem dX11_giveOutSeats_37 : decode cX11_giveOutSeats 37 = .ok (.invokevirtual 276, 3) := by decide +kernel
theorem dX11_giveOutSeats_40 : decode cX11_giveOutSeats 40 = .ok (.checkcast 79, 3) := by decide +kernel
theorem dX11_giveOutSeats_43 : decode cX11_giveOutSeats 43 = .ok (.invokevirtual 434, 3) := by decide +kernel
theorem dX11_giveOutSeats_46 : decode cX11_giveOutSeats 46 = .ok (.ifCond .eq 7, 3) := by decide +kernel
theorem dX11_giveOutSeats_49 : decode cX11_giveOutSeats 49 = .ok (.iconst 0, 1) := by decide +kernel
theorem dX11_giveOutSeats_50 : decode cX11_giveOutSeats 50 = .ok (.goto 6, 3) := by decide +kernel
theorem dX11_giveOutSeats_53 : decode cX11_giveOutSeats 53 = .ok (.iload_n 1, 1) := by decide +kernel
theorem dX11_giveOutSeats_54 : decode cX11_giveOutSeats 54 = .ok (.iconst 1, 1) := by decide +kernel
theorem dX11_giveOutSeats_55 : decode cX11_giveOutSeats 55 = .ok (.iadd, 1) := by decide +kernel
theorem dX11_giveOutSeats_56 : decode cX11_giveOutSeats 56 = .ok (.istore_n 1, 1) := by decide +kernel
theorem dX11_giveOutSeats_57 : decode cX11_giveOutSeats 57 = .ok (.iinc 2 1, 3) := by decide +kernel
theorem dX11_giveOutSeats_60 : decode cX11_giveOutSeats 60 = .ok (.goto (-47), 3) := by decide +kernel
theorem dX11_giveOutSeats_63 : decode cX11_giveOutSeats 63 = .ok (.return_, 1) := by decide +kernel
theorem dX11_giveSeatIn_0 : decode cX11_giveSeatIn 0 = .ok (.iconst 0, 1) := by decide +kernel
theorem dX11_giveSeatIn_1 : decode cX11_giveSeatIn 1 = .ok (.istore_n 2, 1) := by decide +kernel
theorem dX11_giveSeatIn_2 : decode cX11_giveSeatIn 2 = .ok (.iload_n 2, 1) := by decide +kernel
theorem dX11_giveSeatIn_3 : decode cX11_giveSeatIn 3 = .ok (.aload_n 1, 1) := by decide +kernel
theorem dX11_giveSeatIn_4 : decode cX11_giveSeatIn 4 = .ok (.getfield 217, 3) := by decide +kernel
theorem dX11_giveSeatIn_7 : decode cX11_giveSeatIn 7 = .ok (.invokevirtual 70, 3) := by decide +kernel
theorem dX11_giveSeatIn_10 : decode cX11_giveSeatIn 10 = .ok (.if_icmp .ge 51, 3) := by decide +kernel
theorem dX11_giveSeatIn_13 : decode cX11_giveSeatIn 13 = .ok (.aload_n 1, 1) := by decide +kernel
theorem dX11_giveSeatIn_14 : decode cX11_giveSeatIn 14 = .ok (.getfield 217, 3) := by decide +kernel
theorem dX11_giveSeatIn_17 : decode cX11_giveSeatIn 17 = .ok (.iload_n 2, 1) := by decide +kernel
theorem dX11_giveSeatIn_18 : decode cX11_giveSeatIn 18 = .ok (.invokevirtual 276, 3) := by decide +kernel
theorem dX11_giveSeatIn_21 : decode cX11_giveSeatIn 21 = .ok (.checkcast 29, 3) := by decide +kernel
theorem dX11_giveSeatIn_24 : decode cX11_giveSeatIn 24 = .ok (.astore_n 3, 1) := by decide +kernel
theorem dX11_giveSeatIn_25 : decode cX11_giveSeatIn 25 = .ok (.aload_n 0, 1) := by decide +kernel
theorem dX11_giveSeatIn_26 : decode cX11_giveSeatIn 26 = .ok (.aload_n 3, 1) := by decide +kernel
theorem dX11_giveSeatIn_27 : decode cX11_giveSeatIn 27 = .ok (.aload_n 1, 1) := by decide +kernel
theorem dX11_giveSeatIn_28 : decode cX11_giveSeatIn 28 = .ok (.invokevirtual 437, 3) := by decide +kernel
theorem dX11_giveSeatIn_31 : decode cX11_giveSeatIn 31 = .ok (.ifCond .eq 24, 3) := by decide +kernel
theorem dX11_giveSeatIn_34 : decode cX11_giveSeatIn 34 = .ok (.aload_n 1, 1) := by decide +kernel
theorem dX11_giveSeatIn_35 : decode cX11_giveSeatIn 35 = .ok (.getfield 217, 3) := by decide +kernel
theorem dX11_giveSeatIn_38 : decode cX11_giveSeatIn 38 = .ok (.iload_n 2, 1) := by decide +kernel
theorem dX11_giveSeatIn_39 : decode cX11_giveSeatIn 39 = .ok (.invokevirtual 440, 3) := by decide +kernel
theorem dX11_giveSeatIn_42 : decode cX11_giveSeatIn 42 = .ok (.pop, 1) := by decide +kernel
theorem dX11_giveSeatIn_43 : decode cX11_giveSeatIn 43 = .ok (.aload_n 3, 1) := by decide +kernel
theorem dX11_giveSeatIn_44 : decode cX11_giveSeatIn 44 = .ok (.getfield 214, 3) := by decide +kernel
theorem dX11_giveSeatIn_47 : decode cX11_giveSeatIn 47 = .ok (.aload_n 1, 1) := by decide +kernel
theorem dX11_giveSeatIn_48 : decode cX11_giveSeatIn 48 = .ok (.getfield 428, 3) := by decide +kernel
theorem dX11_giveSeatIn_51 : decode cX11_giveSeatIn 51 = .ok (.iconst 1, 1) := by decide +kernel
theorem dX11_giveSeatIn_52 : decode cX11_giveSeatIn 52 = .ok (.bastore, 1) := by decide +kernel
theorem dX11_giveSeatIn_53 : decode cX11_giveSeatIn 53 = .ok (.iconst 1, 1) := by decide +kernel
theorem dX11_giveSeatIn_54 : decode cX11_giveSeatIn 54 = .ok (.ireturn, 1) := by decide +kernel
theorem dX11_giveSeatIn_55 : decode cX11_giveSeatIn 55 = .ok (.iinc 2 1, 3) := by decide +kernel
theorem dX11_giveSeatIn_58 : decode cX11_giveSeatIn 58 = .ok (.goto (-56), 3) := by decide +kernel
theorem dX11_giveSeatIn_61 : decode cX11_giveSeatIn 61 = .ok (.iconst 0, 1) := by decide +kernel
theorem dX11_giveSeatIn_62 : decode cX11_giveSeatIn 62 = .ok (.ireturn, 1) := by decide +kernel
theorem dX11_emptyWaitingLists_0 : decode cX11_emptyWaitingLists 0 = .ok (.iconst 0, 1) := by decide +kernel
theorem dX11_emptyWaitingLists_1 : decode cX11_emptyWaitingLists 1 = .ok (.istore_n 1, 1) := by decide +kernel
theorem dX11_emptyWaitingLists_2 : decode cX11_emptyWaitingLists 2 = .ok (.iload_n 1, 1) := by decide +kernel
theorem dX11_emptyWaitingLists_3 : decode cX11_emptyWaitingLists 3 = .ok (.aload_n 0, 1) := by decide +kernel
theorem dX11_emptyWaitingLists_4 : decode cX11_emptyWaitingLists 4 = .ok (.getfield 12, 3) := by decide +kernel
theorem dX11_emptyWaitingLists_7 : decode cX11_emptyWaitingLists 7 = .ok (.invokevirtual 70, 3) := by decide +kernel
theorem dX11_emptyWaitingLists_10 : decode cX11_emptyWaitingLists 10 = .ok (.if_icmp .ge 26, 3) := by decide +kernel
theorem dX11_emptyWaitingLists_13 : decode cX11_emptyWaitingLists 13 = .ok (.aload_n 0, 1) := by decide +kernel
theorem dX11_emptyWaitingLists_14 : decode cX11_emptyWaitingLists 14 = .ok (.getfield 12, 3) := by decide +kernel
theorem dX11_emptyWaitingLists_17 : decode cX11_emptyWaitingLists 17 = .ok (.iload_n 1, 1) := by decide +kernel
theorem dX11_emptyWaitingLists_18 : decode cX11_emptyWaitingLists 18 = .ok (.invokevirtual 276, 3) := by decide +kernel
theorem dX11_emptyWaitingLists_21 : decode cX11_emptyWaitingLists 21 = .ok (.checkcast 79, 3) := by decide +kernel
theorem dX11_emptyWaitingLists_24 : decode cX11_emptyWaitingLists 24 = .ok (.getfield 217, 3) := by decide +kernel
theorem dX11_emptyWaitingLists_27 : decode cX11_emptyWaitingLists 27 = .ok (.invokevirtual 443, 3) := by decide +kernel
theorem dX11_emptyWaitingLists_30 : decode cX11_emptyWaitingLists 30 = .ok (.iinc 1 1, 3) := by decide +kernel
theorem dX11_emptyWaitingLists_33 : decode cX11_emptyWaitingLists 33 = .ok (.goto (-31), 3) := by decide +kernel
theorem dX11_emptyWaitingLists_36 : decode cX11_emptyWaitingLists 36 = .ok (.return_, 1) := by decide +kernel
theorem dX11_isWithdrawalDay_0 : decode cX11_isWithdrawalDay 0 = .ok (.aload_n 0, 1) := by decide +kernel
theorem dX11_isWithdrawalDay_1 : decode cX11_isWithdrawalDay 1 = .ok (.getfield 180, 3) := by decide +kernel
theorem dX11_isWithdrawalDay_4 : decode cX11_isWithdrawalDay 4 = .ok (.bipush 9, 2) := by decide +kernel
theorem dX11_isWithdrawalDay_6 : decode cX11_isWithdrawalDay 6 = .ok (.bipush 20, 2) := by decide +kernel
theorem dX11_isWithdrawalDay_8 : decode cX11_isWithdrawalDay 8 = .ok (.invokestatic 59, 3) := by decide +kernel
theorem dX11_isWithdrawalDay_11 : decode cX11_isWithdrawalDay 11 = .ok (.ireturn, 1) := by decide +kernel
theorem dX11_endWithOthers_0 : decode cX11_endWithOthers 0 = .ok (.iload_n 2, 1) := by decide +kernel
theorem dX11_endWithOthers_1 : decode cX11_endWithOthers 1 = .ok (.istore_n 3, 1) := by decide +kernel
theorem dX11_endWithOthers_2 : decode cX11_endWithOthers 2 = .ok (.iconst 0, 1) := by decide +kernel
theorem dX11_endWithOthers_3 : decode cX11_endWithOthers 3 = .ok (.istore 4, 2) := by decide +kernel
theorem dX11_endWithOthers_5 : decode cX11_endWithOthers 5 = .ok (.iload 4, 2) := by decide +kernel
theorem dX11_endWithOthers_7 : decode cX11_endWithOthers 7 = .ok (.bipush 20, 2) := by decide +kernel
theorem dX11_endWithOthers_9 : decode cX11_endWithOthers 9 = .ok (.if_icmp .ge 40, 3) := by decide +kernel
theorem dX11_endWithOthers_12 : decode cX11_endWithOthers 12 = .ok (.iload_n 3, 1) := by decide +kernel
theorem dX11_endWithOthers_13 : decode cX11_endWithOthers 13 = .ok (.iconst (-1), 1) := by decide +kernel
theorem dX11_endWithOthers_14 : decode cX11_endWithOthers 14 = .ok (.if_icmp .eq 35, 3) := by decide +kernel
theorem dX11_endWithOthers_17 : decode cX11_endWithOthers 17 = .ok (.aload_n 1, 1) := by decide +kernel
theorem dX11_endWithOthers_18 : decode cX11_endWithOthers 18 = .ok (.getfield 214, 3) := by decide +kernel
theorem dX11_endWithOthers_21 : decode cX11_endWithOthers 21 = .ok (.iload_n 3, 1) := by decide +kernel
theorem dX11_endWithOthers_22 : decode cX11_endWithOthers 22 = .ok (.iconst 0, 1) := by decide +kernel
theorem dX11_endWithOthers_23 : decode cX11_endWithOthers 23 = .ok (.bastore, 1) := by decide +kernel
theorem dX11_endWithOthers_24 : decode cX11_endWithOthers 24 = .ok (.aload_n 0, 1) := by decide +kernel
theorem dX11_endWithOthers_25 : decode cX11_endWithOthers 25 = .ok (.invokevirtual 236, 3) := by decide +kernel
theorem dX11_endWithOthers_28 : decode cX11_endWithOthers 28 = .ok (.ifCond .eq 9, 3) := by decide +kernel
theorem dX11_endWithOthers_31 : decode cX11_endWithOthers 31 = .ok (.aload_n 1, 1) := by decide +kernel
theorem dX11_endWithOthers_32 : decode cX11_endWithOthers 32 = .ok (.iload_n 3, 1) := by decide +kernel
theorem dX11_endWithOthers_33 : decode cX11_endWithOthers 33 = .ok (.iconst (-1), 1) := by decide +kernel
theorem dX11_endWithOthers_34 : decode cX11_endWithOthers 34 = .ok (.invokevirtual 422, 3) := by decide +kernel
theorem dX11_endWithOthers_37 : decode cX11_endWithOthers 37 = .ok (.aload_n 0, 1) := by decide +kernel
theorem dX11_endWithOthers_38 : decode cX11_endWithOthers 38 = .ok (.aload_n 1, 1) := by decide +kernel
theorem dX11_endWithOthers_39 : decode cX11_endWithOthers 39 = .ok (.invokevirtual 446, 3) := by decide +kernel
theorem dX11_endWithOthers_42 : decode cX11_endWithOthers 42 = .ok (.istore_n 3, 1) := by decide +kernel
theorem dX11_endWithOthers_43 : decode cX11_endWithOthers 43 = .ok (.iinc 4 1, 3) := by decide +kernel
theorem dX11_endWithOthers_46 : decode cX11_endWithOthers 46 = .ok (.goto (-41), 3) := by decide +kernel
theorem dX11_endWithOthers_49 : decode cX11_endWithOthers 49 = .ok (.return_, 1) := by decide +kernel
theorem dX11_firstUnmet_0 : decode cX11_firstUnmet 0 = .ok (.aload_n 0, 1) := by decide +kernel
theorem dX11_firstUnmet_1 : decode cX11_firstUnmet 1 = .ok (.aload_n 1, 1) := by decide +kernel
theorem dX11_firstUnmet_2 : decode cX11_firstUnmet 2 = .ok (.invokevirtual 167, 3) := by decide +kernel
theorem dX11_firstUnmet_5 : decode cX11_firstUnmet 5 = .ok (.lstore_n 2, 1) := by decide +kernel
theorem dX11_firstUnmet_6 : decode cX11_firstUnmet 6 = .ok (.iconst 0, 1) := by decide +kernel
theorem dX11_firstUnmet_7 : decode cX11_firstUnmet 7 = .ok (.istore 4, 2) := by decide +kernel
theorem dX11_firstUnmet_9 : decode cX11_firstUnmet 9 = .ok (.iload 4, 2) := by decide +kernel
theorem dX11_firstUnmet_11 : decode cX11_firstUnmet 11 = .ok (.aload_n 0, 1) := by decide +kernel
theorem dX11_firstUnmet_12 : decode cX11_firstUnmet 12 = .ok (.getfield 12, 3) := by decide +kernel
theorem dX11_firstUnmet_15 : decode cX11_firstUnmet 15 = .ok (.invokevirtual 70, 3) := by decide +kernel
theorem dX11_firstUnmet_18 : decode cX11_firstUnmet 18 = .ok (.if_icmp .ge 44, 3) := by decide +kernel
theorem dX11_firstUnmet_21 : decode cX11_firstUnmet 21 = .ok (.aload_n 1, 1) := by decide +kernel
theorem dX11_firstUnmet_22 : decode cX11_firstUnmet 22 = .ok (.getfield 214, 3) := by decide +kernel
theorem dX11_firstUnmet_25 : decode cX11_firstUnmet 25 = .ok (.iload 4, 2) := by decide +kernel
theorem dX11_firstUnmet_27 : decode cX11_firstUnmet 27 = .ok (.baload, 1) := by decide +kernel
theorem dX11_firstUnmet_28 : decode cX11_firstUnmet 28 = .ok (.ifCond .eq 28, 3) := by decide +kernel
theorem dX11_firstUnmet_31 : decode cX11_firstUnmet 31 = .ok (.aload_n 0, 1) := by decide +kernel
theorem dX11_firstUnmet_32 : decode cX11_firstUnmet 32 = .ok (.getfield 12, 3) := by decide +kernel
theorem dX11_firstUnmet_35 : decode cX11_firstUnmet 35 = .ok (.iload 4, 2) := by decide +kernel
theorem dX11_firstUnmet_37 : decode cX11_firstUnmet 37 = .ok (.invokevirtual 276, 3) := by decide +kernel
theorem dX11_firstUnmet_40 : decode cX11_firstUnmet 40 = .ok (.checkcast 79, 3) := by decide +kernel
theorem dX11_firstUnmet_43 : decode cX11_firstUnmet 43 = .ok (.getfield 175, 3) := by decide +kernel
theorem dX11_firstUnmet_46 : decode cX11_firstUnmet 46 = .ok (.lload_n 2, 1) := by decide +kernel
theorem dX11_firstUnmet_47 : decode cX11_firstUnmet 47 = .ok (.invokestatic 171, 3) := by decide +kernel
theorem dX11_firstUnmet_50 : decode cX11_firstUnmet 50 = .ok (.ifCond .ne 6, 3) := by decide +kernel
theorem dX11_firstUnmet_53 : decode cX11_firstUnmet 53 = .ok (.iload 4, 2) := by decide +kernel
theorem dX11_firstUnmet_55 : decode cX11_firstUnmet 55 = .ok (.ireturn, 1) := by decide +kernel
theorem dX11_firstUnmet_56 : decode cX11_firstUnmet 56 = .ok (.iinc 4 1, 3) := by decide +kernel
theorem dX11_firstUnmet_59 : decode cX11_firstUnmet 59 = .ok (.goto (-50), 3) := by decide +kernel
theorem dX11_firstUnmet_62 : decode cX11_firstUnmet 62 = .ok (.iconst (-1), 1) := by decide +kernel
theorem dX11_firstUnmet_63 : decode cX11_firstUnmet 63 = .ok (.ireturn, 1) := by decide +kernel
theorem dX11_isCourseSound_0 : decode cX11_isCourseSound 0 = .ok (.aload_n 0, 1) := by decide +kernel
theorem dX11_isCourseSound_1 : decode cX11_isCourseSound 1 = .ok (.aload_n 1, 1) := by decide +kernel
theorem dX11_isCourseSound_2 : decode cX11_isCourseSound 2 = .ok (.invokevirtual 314, 3) := by decide +kernel
theorem dX11_isCourseSound_5 : decode cX11_isCourseSound 5 = .ok (.aload_n 1, 1) := by decide +kernel
theorem dX11_isCourseSound_6 : decode cX11_isCourseSound 6 = .ok (.getfield 113, 3) := by decide +kernel
theorem dX11_isCourseSound_9 : decode cX11_isCourseSound 9 = .ok (.if_icmp .le 5, 3) := by decide +kernel
theorem dX11_isCourseSound_12 : decode cX11_isCourseSound 12 = .ok (.iconst 0, 1) := by decide +kernel
theorem dX11_isCourseSound_13 : decode cX11_isCourseSound 13 = .ok (.ireturn, 1) := by decide +kernel
theorem dX11_isCourseSound_14 : decode cX11_isCourseSound 14 = .ok (.iconst 0, 1) := by decide +kernel
theorem dX11_isCourseSound_15 : decode cX11_isCourseSound 15 = .ok (.istore_n 2, 1) := by decide +kernel
theorem dX11_isCourseSound_16 : decode cX11_isCourseSound 16 = .ok (.iload_n 2, 1) := by decide +kernel
theorem dX11_isCourseSound_17 : decode cX11_isCourseSound 17 = .ok (.aload_n 1, 1) := by decide +kernel
theorem dX11_isCourseSound_18 : decode cX11_isCourseSound 18 = .ok (.getfield 217, 3) := by decide +kernel
theorem dX11_isCourseSound_21 : decode cX11_isCourseSound 21 = .ok (.invokevirtual 70, 3) := by decide +kernel
theorem dX11_isCourseSound_24 : decode cX11_isCourseSound 24 = .ok (.if_icmp .ge 44, 3) := by decide +kernel
theorem dX11_isCourseSound_27 : decode cX11_isCourseSound 27 = .ok (.aload_n 1, 1) := by decide +kernel
theorem dX11_isCourseSound_28 : decode cX11_isCourseSound 28 = .ok (.getfield 217, 3) := by decide +kernel
theorem dX11_isCourseSound_31 : decode cX11_isCourseSound 31 = .ok (.iload_n 2, 1) := by decide +kernel
theorem dX11_isCourseSound_32 : decode cX11_isCourseSound 32 = .ok (.invokevirtual 276, 3) := by decide +kernel
theorem dX11_isCourseSound_35 : decode cX11_isCourseSound 35 = .ok (.checkcast 29, 3) := by decide +kernel
theorem dX11_isCourseSound_38 : decode cX11_isCourseSound 38 = .ok (.astore_n 3, 1) := by decide +kernel
theorem dX11_isCourseSound_39 : decode cX11_isCourseSound 39 = .ok (.aload_n 3, 1) := by decide +kernel
theorem dX11_isCourseSound_40 : decode cX11_isCourseSound 40 = .ok (.getfield 214, 3) := by decide +kernel
theorem dX11_isCourseSound_43 : decode cX11_isCourseSound 43 = .ok (.aload_n 1, 1) := by decide +kernel
theorem dX11_isCourseSound_44 : decode cX11_isCourseSound 44 = .ok (.getfield 428, 3) := by decide +kernel
theorem dX11_isCourseSound_47 : decode cX11_isCourseSound 47 = .ok (.baload, 1) := by decide +kernel
theorem dX11_isCourseSound_48 : decode cX11_isCourseSound 48 = .ok (.ifCond .ne 12, 3) := by decide +kernel
theorem dX11_isCourseSound_51 : decode cX11_isCourseSound 51 = .ok (.aload_n 0, 1) := by decide +kernel
theorem dX11_isCourseSound_52 : decode cX11_isCourseSound 52 = .ok (.aload_n 3, 1) := by decide +kernel
theorem dX11_isCourseSound_53 : decode cX11_isCourseSound 53 = .ok (.aload_n 1, 1) := by decide +kernel
theorem dX11_isCourseSound_54 : decode cX11_isCourseSound 54 = .ok (.invokevirtual 437, 3) := by decide +kernel
theorem dX11_isCourseSound_57 : decode cX11_isCourseSound 57 = .ok (.ifCond .eq 5, 3) := by decide +kernel
theorem dX11_isCourseSound_60 : decode cX11_isCourseSound 60 = .ok (.iconst 0, 1) := by decide +kernel
theorem dX11_isCourseSound_61 : decode cX11_isCourseSound 61 = .ok (.ireturn, 1) := by decide +kernel
theorem dX11_isCourseSound_62 : decode cX11_isCourseSound 62 = .ok (.iinc 2 1, 3) := by decide +kernel
theorem dX11_isCourseSound_65 : decode cX11_isCourseSound 65 = .ok (.goto (-49), 3) := by decide +kernel
theorem dX11_isCourseSound_68 : decode cX11_isCourseSound 68 = .ok (.iconst 1, 1) := by decide +kernel
theorem dX11_isCourseSound_69 : decode cX11_isCourseSound 69 = .ok (.ireturn, 1) := by decide +kernel
theorem dX11_auditsAgree_0 : decode cX11_auditsAgree 0 = .ok (.aload_n 0, 1) := by decide +kernel
theorem dX11_auditsAgree_1 : decode cX11_auditsAgree 1 = .ok (.getfield 41, 3) := by decide +kernel
theorem dX11_auditsAgree_4 : decode cX11_auditsAgree 4 = .ok (.aload_n 0, 1) := by decide +kernel
theorem dX11_auditsAgree_5 : decode cX11_auditsAgree 5 = .ok (.getfield 22, 3) := by decide +kernel
theorem dX11_auditsAgree_8 : decode cX11_auditsAgree 8 = .ok (.aload_n 1, 1) := by decide +kernel
theorem dX11_auditsAgree_9 : decode cX11_auditsAgree 9 = .ok (.iconst 0, 1) := by decide +kernel
theorem dX11_auditsAgree_10 : decode cX11_auditsAgree 10 = .ok (.invokevirtual 363, 3) := by decide +kernel
theorem dX11_auditsAgree_13 : decode cX11_auditsAgree 13 = .ok (.aload_n 0, 1) := by decide +kernel
theorem dX11_auditsAgree_14 : decode cX11_auditsAgree 14 = .ok (.getfield 41, 3) := by decide +kernel
theorem dX11_auditsAgree_17 : decode cX11_auditsAgree 17 = .ok (.invokevirtual 370, 3) := by decide +kernel
theorem dX11_auditsAgree_20 : decode cX11_auditsAgree 20 = .ok (.istore_n 2, 1) := by decide +kernel
theorem dX11_auditsAgree_21 : decode cX11_auditsAgree 21 = .ok (.aload_n 0, 1) := by decide +kernel
theorem dX11_auditsAgree_22 : decode cX11_auditsAgree 22 = .ok (.getfield 41, 3) := by decide +kernel
theorem dX11_auditsAgree_25 : decode cX11_auditsAgree 25 = .ok (.invokevirtual 367, 3) := by decide +kernel
theorem dX11_auditsAgree_28 : decode cX11_auditsAgree 28 = .ok (.iload_n 2, 1) := by decide +kernel
theorem dX11_auditsAgree_29 : decode cX11_auditsAgree 29 = .ok (.if_icmp .ne 25, 3) := by decide +kernel
theorem dX11_auditsAgree_32 : decode cX11_auditsAgree 32 = .ok (.aload_n 0, 1) := by decide +kernel
theorem dX11_auditsAgree_33 : decode cX11_auditsAgree 33 = .ok (.getfield 41, 3) := by decide +kernel
theorem dX11_auditsAgree_36 : decode cX11_auditsAgree 36 = .ok (.invokevirtual 373, 3) := by decide +kernel
theorem dX11_auditsAgree_39 : decode cX11_auditsAgree 39 = .ok (.aload_n 0, 1) := by decide +kernel
theorem dX11_auditsAgree_40 : decode cX11_auditsAgree 40 = .ok (.getfield 41, 3) := by decide +kernel
theorem dX11_auditsAgree_43 : decode cX11_auditsAgree 43 = .ok (.iload_n 2, 1) := by decide +kernel
theorem dX11_auditsAgree_44 : decode cX11_auditsAgree 44 = .ok (.invokevirtual 376, 3) := by decide +kernel
theorem dX11_auditsAgree_47 : decode cX11_auditsAgree 47 = .ok (.if_icmp .ne 7, 3) := by decide +kernel
theorem dX11_auditsAgree_50 : decode cX11_auditsAgree 50 = .ok (.iconst 1, 1) := by decide +kernel
theorem dX11_auditsAgree_51 : decode cX11_auditsAgree 51 = .ok (.goto 4, 3) := by decide +kernel
theorem dX11_auditsAgree_54 : decode cX11_auditsAgree 54 = .ok (.iconst 0, 1) := by decide +kernel
theorem dX11_auditsAgree_55 : decode cX11_auditsAgree 55 = .ok (.ireturn, 1) := by decide +kernel
theorem dX12_init_0 : decode cX12_init 0 = .ok (.aload_n 0, 1) := by decide +kernel
theorem dX12_init_1 : decode cX12_init 1 = .ok (.invokespecial 1, 3) := by decide +kernel
theorem dX12_init_4 : decode cX12_init 4 = .ok (.aload_n 0, 1) := by decide +kernel
theorem dX12_init_5 : decode cX12_init 5 = .ok (.bipush 12, 2) := by decide +kernel
theorem dX12_init_7 : decode cX12_init 7 = .ok (.newarray .int, 2) := by decide +kernel
theorem dX12_init_9 : decode cX12_init 9 = .ok (.putfield 9, 3) := by decide +kernel
theorem dX12_init_12 : decode cX12_init 12 = .ok (.aload_n 0, 1) := by decide +kernel
theorem dX12_init_13 : decode cX12_init 13 = .ok (.bipush 12, 2) := by decide +kernel
theorem dX12_init_15 : decode cX12_init 15 = .ok (.newarray .int, 2) := by decide +kernel
theorem dX12_init_17 : decode cX12_init 17 = .ok (.putfield 13, 3) := by decide +kernel
theorem dX12_init_20 : decode cX12_init 20 = .ok (.aload_n 0, 1) := by decide +kernel
theorem dX12_init_21 : decode cX12_init 21 = .ok (.bipush 12, 2) := by decide +kernel
theorem dX12_init_23 : decode cX12_init 23 = .ok (.newarray .int, 2) := by decide +kernel
theorem dX12_init_25 : decode cX12_init 25 = .ok (.putfield 16, 3) := by decide +kernel
theorem dX12_init_28 : decode cX12_init 28 = .ok (.aload_n 0, 1) := by decide +kernel
theorem dX12_init_29 : decode cX12_init 29 = .ok (.bipush 12, 2) := by decide +kernel
theorem dX12_init_31 : decode cX12_init 31 = .ok (.newarray .int, 2) := by decide +kernel
theorem dX12_init_33 : decode cX12_init 33 = .ok (.putfield 19, 3) := by decide +kernel
theorem dX12_init_36 : decode cX12_init 36 = .ok (.aload_n 0, 1) := by decide +kernel
theorem dX12_init_37 : decode cX12_init 37 = .ok (.iconst 5, 1) := by decide +kernel
theorem dX12_init_38 : decode cX12_init 38 = .ok (.newarray .int, 2) := by decide +kernel
theorem dX12_init_40 : decode cX12_init 40 = .ok (.dup, 1) := by decide +kernel
theorem dX12_init_41 : decode cX12_init 41 = .ok (.iconst 0, 1) := by decide +kernel
theorem dX12_init_42 : decode cX12_init 42 = .ok (.iconst (-1), 1) := by decide +kernel
theorem dX12_init_43 : decode cX12_init 43 = .ok (.iastore, 1) := by decide +kernel
theorem dX12_init_44 : decode cX12_init 44 = .ok (.dup, 1) := by decide +kernel
theorem dX12_init_45 : decode cX12_init 45 = .ok (.iconst 1, 1) := by decide +kernel
theorem dX12_init_46 : decode cX12_init 46 = .ok (.iconst (-1), 1) := by decide +kernel
theorem dX12_init_47 : decode cX12_init 47 = .ok (.iastore, 1) := by decide +kernel
theorem dX12_init_48 : decode cX12_init 48 = .ok (.dup, 1) := by decide +kernel
theorem dX12_init_49 : decode cX12_init 49 = .ok (.iconst 2, 1) := by decide +kernel
theorem dX12_init_50 : decode cX12_init 50 = .ok (.iconst (-1), 1) := by decide +kernel
theorem dX12_init_51 : decode cX12_init 51 = .ok (.iastore, 1) := by decide +kernel
theorem dX12_init_52 : decode cX12_init 52 = .ok (.dup, 1) := by decide +kernel
theorem dX12_init_53 : decode cX12_init 53 = .ok (.iconst 3, 1) := by decide +kernel
theorem dX12_init_54 : decode cX12_init 54 = .ok (.iconst (-1), 1) := by decide +kernel
theorem dX12_init_55 : decode cX12_init 55 = .ok (.iastore, 1) := by decide +kernel
theorem dX12_init_56 : decode cX12_init 56 = .ok (.dup, 1) := by decide +kernel
theorem dX12_init_57 : decode cX12_init 57 = .ok (.iconst 4, 1) := by decide +kernel
theorem dX12_init_58 : decode cX12_init 58 = .ok (.iconst (-1), 1) := by decide +kernel
theorem dX12_init_59 : decode cX12_init 59 = .ok (.iastore, 1) := by decide +kernel
theorem dX12_init_60 : decode cX12_init 60 = .ok (.putfield 22, 3) := by decide +kernel
theorem dX12_init_63 : decode cX12_init 63 = .ok (.aload_n 0, 1) := by decide +kernel
theorem dX12_init_64 : decode cX12_init 64 = .ok (.iconst 5, 1) := by decide +kernel
theorem dX12_init_65 : decode cX12_init 65 = .ok (.newarray .int, 2) := by decide +kernel
theorem dX12_init_67 : decode cX12_init 67 = .ok (.putfield 25, 3) := by decide +kernel
theorem dX12_init_70 : decode cX12_init 70 = .ok (.aload_n 0, 1) := by decide +kernel
theorem dX12_init_71 : decode cX12_init 71 = .ok (.iconst 5, 1) := by decide +kernel
theorem dX12_init_72 : decode cX12_init 72 = .ok (.newarray .int, 2) := by decide +kernel
theorem dX12_init_74 : decode cX12_init 74 = .ok (.putfield 28, 3) := by decide +kernel
theorem dX12_init_77 : decode cX12_init 77 = .ok (.aload_n 0, 1) := by decide +kernel
theorem dX12_init_78 : decode cX12_init 78 = .ok (.bipush 20, 2) := by decide +kernel
theorem dX12_init_80 : decode cX12_init 80 = .ok (.newarray .int, 2) := by decide +kernel
theorem dX12_init_82 : decode cX12_init 82 = .ok (.putfield 31, 3) := by decide +kernel
theorem dX12_init_85 : decode cX12_init 85 = .ok (.aload_n 0, 1) := by decide +kernel
theorem dX12_init_86 : decode cX12_init 86 = .ok (.iconst 5, 1) := by decide +kernel
theorem dX12_init_87 : decode cX12_init 87 = .ok (.newarray .int, 2) := by decide +kernel
theorem dX12_init_89 : decode cX12_init 89 = .ok (.putfield 34, 3) := by decide +kernel
theorem dX12_init_92 : decode cX12_init 92 = .ok (.return_, 1) := by decide +kernel
theorem dX12_holds_0 : decode cX12_holds 0 = .ok (.aload_n 0, 1) := by decide +kernel
theorem dX12_holds_1 : decode cX12_holds 1 = .ok (.getfield 9, 3) := by decide +kernel
theorem dX12_holds_4 : decode cX12_holds 4 = .ok (.iload_n 2, 1) := by decide +kernel
theorem dX12_holds_5 : decode cX12_holds 5 = .ok (.iaload, 1) := by decide +kernel
theorem dX12_holds_6 : decode cX12_holds 6 = .ok (.tableswitch 276 0 5 #[38, 64, 100, 120, 156, 192], 38) := by decide +kernel
theorem dX12_holds_44 : decode cX12_holds 44 = .ok (.aload_n 1, 1) := by decide +kernel
theorem dX12_holds_45 : decode cX12_holds 45 = .ok (.iload_n 3, 1) := by decide +kernel
theorem dX12_holds_46 : decode cX12_holds 46 = .ok (.aload_n 0, 1) := by decide +kernel
theorem dX12_holds_47 : decode cX12_holds 47 = .ok (.getfield 13, 3) := by decide +kernel
theorem dX12_holds_50 : decode cX12_holds 50 = .ok (.iload_n 2, 1) := by decide +kernel
theorem dX12_holds_51 : decode cX12_holds 51 = .ok (.iaload, 1) := by decide +kernel
theorem dX12_holds_52 : decode cX12_holds 52 = .ok (.invokestatic 37, 3) := by decide +kernel
theorem dX12_holds_55 : decode cX12_holds 55 = .ok (.aload_n 0, 1) := by decide +kernel
theorem dX12_holds_56 : decode cX12_holds 56 = .ok (.getfield 16, 3) := by decide +kernel
theorem dX12_holds_59 : decode cX12_holds 59 = .ok (.iload_n 2, 1) := by decide +kernel
theorem dX12_holds_60 : decode cX12_holds 60 = .ok (.iaload, 1) := by decide +kernel
theorem dX12_holds_61 : decode cX12_holds 61 = .ok (.if_icmp .lt 7, 3) := by decide +kernel
theorem dX12_holds_64 : decode cX12_holds 64 = .ok (.iconst 1, 1) := by decide +kernel
theorem dX12_holds_65 : decode cX12_holds 65 = .ok (.goto 4, 3) := by decide +kernel
theorem dX12_holds_68 : decode cX12_holds 68 = .ok (.iconst 0, 1) := by decide +kernel
theorem dX12_holds_69 : decode cX12_holds 69 = .ok (.ireturn, 1) := by decide +kernel
theorem dX12_holds_70 : decode cX12_holds 70 = .ok (.aload_n 1, 1) := by decide +kernel
theorem dX12_holds_71 : decode cX12_holds 71 = .ok (.iload_n 3, 1) := by decide +kernel
theorem dX12_holds_72 : decode cX12_holds 72 = .ok (.aload_n 0, 1) := by decide +kernel
theorem dX12_holds_73 : decode cX12_holds 73 = .ok (.getfield 13, 3) := by decide +kernel
theorem dX12_holds_76 : decode cX12_holds 76 = .ok (.iload_n 2, 1) := by decide +kernel
theorem dX12_holds_77 : decode cX12_holds 77 = .ok (.iaload, 1) := by decide +kernel
theorem dX12_holds_78 : decode cX12_holds 78 = .ok (.invokevirtual 43, 3) := by decide +kernel
theorem dX12_holds_81 : decode cX12_holds 81 = .ok (.ifCond .ne 19, 3) := by decide +kernel
theorem dX12_holds_84 : decode cX12_holds 84 = .ok (.aload_n 1, 1) := by decide +kernel
theorem dX12_holds_85 : decode cX12_holds 85 = .ok (.iload_n 3, 1) := by decide +kernel
theorem dX12_holds_86 : decode cX12_holds 86 = .ok (.aload_n 0, 1) := by decide +kernel
theorem dX12_holds_87 : decode cX12_holds 87 = .ok (.getfield 13, 3) := by decide +kernel
theorem dX12_holds_90 : decode cX12_holds 90 = .ok (.iload_n 2, 1) := by decide +kernel
theorem dX12_holds_91 : decode cX12_holds 91 = .ok (.iaload, 1) := by decide +kernel
theorem dX12_holds_92 : decode cX12_holds 92 = .ok (.invokestatic 37, 3) := by decide +kernel
theorem dX12_holds_95 : decode cX12_holds 95 = .ok (.bipush 50, 2) := by decide +kernel
theorem dX12_holds_97 : decode cX12_holds 97 = .ok (.if_icmp .lt 7, 3) := by decide +kernel
theorem dX12_holds_100 : decode cX12_holds 100 = .ok (.iconst 1, 1) := by decide +kernel
theorem dX12_holds_101 : decode cX12_holds 101 = .ok (.goto 4, 3) := by decide +kernel
theorem dX12_holds_104 : decode cX12_holds 104 = .ok (.iconst 0, 1) := by decide +kernel
theorem dX12_holds_105 : decode cX12_holds 105 = .ok (.ireturn, 1) := by decide +kernel
theorem dX12_holds_106 : decode cX12_holds 106 = .ok (.aload_n 1, 1) := by decide +kernel
theorem dX12_holds_107 : decode cX12_holds 107 = .ok (.iload_n 3, 1) := by decide +kernel
theorem dX12_holds_108 : decode cX12_holds 108 = .ok (.invokevirtual 49, 3) := by decide +kernel
theorem dX12_holds_111 : decode cX12_holds 111 = .ok (.aload_n 0, 1) := by decide +kernel
theorem dX12_holds_112 : decode cX12_holds 112 = .ok (.getfield 13, 3) := by decide +kernel
theorem dX12_holds_115 : decode cX12_holds 115 = .ok (.iload_n 2, 1) := by decide +kernel
theorem dX12_holds_116 : decode cX12_holds 116 = .ok (.iaload, 1) := by decide +kernel
theorem dX12_holds_117 : decode cX12_holds 117 = .ok (.if_icmp .lt 7, 3) := by decide +kernel
theorem dX12_holds_120 : decode cX12_holds 120 = .ok (.iconst 1, 1) := by decide +kernel
theorem dX12_holds_121 : decode cX12_holds 121 = .ok (.goto 4, 3) := by decide +kernel
theorem dX12_holds_124 : decode cX12_holds 124 = .ok (.iconst 0, 1) := by decide +kernel
theorem dX12_holds_125 : decode cX12_holds 125 = .ok (.ireturn, 1) := by decide +kernel
theorem dX12_holds_126 : decode cX12_holds 126 = .ok (.aload_n 0, 1) := by decide +kernel
theorem dX12_holds_127 : decode cX12_holds 127 = .ok (.aload_n 1, 1) := by decide +kernel
theorem dX12_holds_128 : decode cX12_holds 128 = .ok (.aload_n 0, 1) := by decide +kernel
theorem dX12_holds_129 : decode cX12_holds 129 = .ok (.getfield 13, 3) := by decide +kernel
theorem dX12_holds_132 : decode cX12_holds 132 = .ok (.iload_n 2, 1) := by decide +kernel
theorem dX12_holds_133 : decode cX12_holds 133 = .ok (.iaload, 1) := by decide +kernel
theorem dX12_holds_134 : decode cX12_holds 134 = .ok (.iload_n 3, 1) := by decide +kernel
theorem dX12_holds_135 : decode cX12_holds 135 = .ok (.invokevirtual 53, 3) := by decide +kernel
theorem dX12_holds_138 : decode cX12_holds 138 = .ok (.ifCond .eq 22, 3) := by decide +kernel
theorem dX12_holds_141 : decode cX12_holds 141 = .ok (.aload_n 0, 1) := by decide +kernel
theorem dX12_holds_142 : decode cX12_holds 142 = .ok (.aload_n 1, 1) := by decide +kernel
theorem dX12_holds_143 : decode cX12_holds 143 = .ok (.aload_n 0, 1) := by decide +kernel
theorem dX12_holds_144 : decode cX12_holds 144 = .ok (.getfield 16, 3) := by decide +kernel
theorem dX12_holds_147 : decode cX12_holds 147 = .ok (.iload_n 2, 1) := by decide +kernel
theorem dX12_holds_148 : decode cX12_holds 148 = .ok (.iaload, 1) := by decide +kernel
theorem dX12_holds_149 : decode cX12_holds 149 = .ok (.iload_n 3, 1) := by decide +kernel
theorem dX12_holds_150 : decode cX12_holds 150 = .ok (.invokevirtual 53, 3) := by decide +kernel
theorem dX12_holds_153 : decode cX12_holds 153 = .ok (.ifCond .eq 7, 3) := by decide +kernel
theorem dX12_holds_156 : decode cX12_holds 156 = .ok (.iconst 1, 1) := by decide +kernel
theorem dX12_holds_157 : decode cX12_holds 157 = .ok (.goto 4, 3) := by decide +kernel
theorem dX12_holds_160 : decode cX12_holds 160 = .ok (.iconst 0, 1) := by decide +kernel
theorem dX12_holds_161 : decode cX12_holds 161 = .ok (.ireturn, 1) := by decide +kernel
theorem dX12_holds_162 : decode cX12_holds 162 = .ok (.aload_n 0, 1) := by decide +kernel
theorem dX12_holds_163 : decode cX12_holds 163 = .ok (.aload_n 1, 1) := by decide +kernel
theorem dX12_holds_164 : decode cX12_holds 164 = .ok (.aload_n 0, 1) := by decide +kernel
theorem dX12_holds_165 : decode cX12_holds 165 = .ok (.getfield 13, 3) := by decide +kernel
theorem dX12_holds_168 : decode cX12_holds 168 = .ok (.iload_n 2, 1) := by decide +kernel
theorem dX12_holds_169 : decode cX12_holds 169 = .ok (.iaload, 1) := by decide +kernel
theorem dX12_holds_170 : decode cX12_holds 170 = .ok (.iload_n 3, 1) := by decide +kernel
theorem dX12_holds_171 : decode cX12_holds 171 = .ok (.invokevirtual 53, 3) := by decide +kernel
theorem dX12_holds_174 : decode cX12_holds 174 = .ok (.ifCond .ne 18, 3) := by decide +kernel
theorem dX12_holds_177 : decode cX12_holds 177 = .ok (.aload_n 0, 1) := by decide +kernel
theorem dX12_holds_178 : decode cX12_holds 178 = .ok (.aload_n 1, 1) := by decide +kernel
theorem dX12_holds_179 : decode cX12_holds 179 = .ok (.aload_n 0, 1) := by decide +kernel
theorem dX12_holds_180 : decode cX12_holds 180 = .ok (.getfield 16, 3) := by decide +kernel
theorem dX12_holds_183 : decode cX12_holds 183 = .ok (.iload_n 2, 1) := by decide +kernel
theorem dX12_holds_184 : decode cX12_holds 184 = .ok (.iaload, 1) := by decide +kernel
theorem dX12_holds_185 : decode cX12_holds 185 = .ok (.iload_n 3, 1) := by decide +kernel
theorem dX12_holds_186 : decode cX12_holds 186 = .ok (.invokevirtual 53, 3) := by decide +kernel
theorem dX12_holds_189 : decode cX12_holds 189 = .ok (.ifCond .eq 7, 3) := by decide +kernel
theorem dX12_holds_192 : decode cX12_holds 192 = .ok (.iconst 1, 1) := by decide +kernel
theorem dX12_holds_193 : decode cX12_holds 193 = .ok (.goto 4, 3) := by decide +kernel
theorem dX12_holds_196 : decode cX12_holds 196 = .ok (.iconst 0, 1) := by decide +kernel
theorem dX12_holds_197 : decode cX12_holds 197 = .ok (.ireturn, 1) := by decide +kernel
theorem dX12_holds_198 : decode cX12_holds 198 = .ok (.aload_n 0, 1) := by decide +kernel
theorem dX12_holds_199 : decode cX12_holds 199 = .ok (.aload_n 1, 1) := by decide +kernel
theorem dX12_holds_200 : decode cX12_holds 200 = .ok (.aload_n 0, 1) := by decide +kernel
theorem dX12_holds_201 : decode cX12_holds 201 = .ok (.getfield 13, 3) := by decide +kernel
theorem dX12_holds_204 : decode cX12_holds 204 = .ok (.iload_n 2, 1) := by decide +kernel
theorem dX12_holds_205 : decode cX12_holds 205 = .ok (.iaload, 1) := by decide +kernel
theorem dX12_holds_206 : decode cX12_holds 206 = .ok (.iload_n 3, 1) := by decide +kernel
theorem dX12_holds_207 : decode cX12_holds 207 = .ok (.invokevirtual 53, 3) := by decide +kernel
theorem dX12_holds_210 : decode cX12_holds 210 = .ok (.ifCond .eq 7, 3) := by decide +kernel
theorem dX12_holds_213 : decode cX12_holds 213 = .ok (.iconst 1, 1) := by decide +kernel
theorem dX12_holds_214 : decode cX12_holds 214 = .ok (.goto 4, 3) := by decide +kernel
theorem dX12_holds_217 : decode cX12_holds 217 = .ok (.iconst 0, 1) := by decide +kernel
theorem dX12_holds_218 : decode cX12_holds 218 = .ok (.istore 4, 2) := by decide +kernel
theorem dX12_holds_220 : decode cX12_holds 220 = .ok (.iload 4, 2) := by decide +kernel
theorem dX12_holds_222 : decode cX12_holds 222 = .ok (.aload_n 0, 1) := by decide +kernel
theorem dX12_holds_223 : decode cX12_holds 223 = .ok (.aload_n 1, 1) := by decide +kernel
theorem dX12_holds_224 : decode cX12_holds 224 = .ok (.aload_n 0, 1) := by decide +kernel
theorem dX12_holds_225 : decode cX12_holds 225 = .ok (.getfield 16, 3) := by decide +kernel
theorem dX12_holds_228 : decode cX12_holds 228 = .ok (.iload_n 2, 1) := by decide +kernel
theorem dX12_holds_229 : decode cX12_holds 229 = .ok (.iaload, 1) := by decide +kernel
theorem dX12_holds_230 : decode cX12_holds 230 = .ok (.iload_n 3, 1) := by decide +kernel
theorem dX12_holds_231 : decode cX12_holds 231 = .ok (.invokevirtual 53, 3) := by decide +kernel
theorem dX12_holds_234 : decode cX12_holds 234 = .ok (.ifCond .eq 7, 3) := by decide +kernel
theorem dX12_holds_237 : decode cX12_holds 237 = .ok (.iconst 1, 1) := by decide +kernel
theorem dX12_holds_238 : decode cX12_holds 238 = .ok (.goto 4, 3) := by decide +kernel
theorem dX12_holds_241 : decode cX12_holds 241 = .ok (.iconst 0, 1) := by decide +kernel
theorem dX12_holds_242 : decode cX12_holds 242 = .ok (.iadd, 1) := by decide +kernel
theorem dX12_holds_243 : decode cX12_holds 243 = .ok (.istore 4, 2) := by decide +kernel
theorem dX12_holds_245 : decode cX12_holds 245 = .ok (.iload 4, 2) := by decide +kernel
theorem dX12_holds_247 : decode cX12_holds 247 = .ok (.aload_n 0, 1) := by decide +kernel
theorem dX12_holds_248 : decode cX12_holds 248 = .ok (.aload_n 1, 1) := by decide +kernel
theorem dX12_holds_249 : decode cX12_holds 249 = .ok (.aload_n 0, 1) := by decide +kernel
theorem dX12_holds_250 : decode cX12_holds 250 = .ok (.getfield 19, 3) := by decide +kernel
theorem dX12_holds_253 : decode cX12_holds 253 = .ok (.iload_n 2, 1) := by decide +kernel
theorem dX12_holds_254 : decode cX12_holds 254 = .ok (.iaload, 1) := by decide +kernel
theorem dX12_holds_255 : decode cX12_holds 255 = .ok (.iload_n 3, 1) := by decide +kernel
theorem dX12_holds_256 : decode cX12_holds 256 = .ok (.invokevirtual 53, 3) := by decide +kernel
theorem dX12_holds_259 : decode cX12_holds 259 = .ok (.ifCond .eq 7, 3) := by decide +kernel
theorem dX12_holds_262 : decode cX12_holds 262 = .ok (.iconst 1, 1) := by decide +kernel
theorem dX12_holds_263 : decode cX12_holds 263 = .ok (.goto 4, 3) := by decide +kernel
theorem dX12_holds_266 : decode cX12_holds 266 = .ok (.iconst 0, 1) := by decide +kernel
theorem dX12_holds_267 : decode cX12_holds 267 = .ok (.iadd, 1) := by decide +kernel
theorem dX12_holds_268 : decode cX12_holds 268 = .ok (.istore 4, 2) := by decide +kernel
theorem dX12_holds_270 : decode cX12_holds 270 = .ok (.iload 4, 2) := by decide +kernel
theorem dX12_holds_272 : decode cX12_holds 272 = .ok (.iconst 1, 1) := by decide +kernel
theorem dX12_holds_273 : decode cX12_holds 273 = .ok (.if_icmp .le 7, 3) := by decide +kernel
theorem dX12_holds_276 : decode cX12_holds 276 = .ok (.iconst 1, 1) := by decide +kernel
theorem dX12_holds_277 : decode cX12_holds 277 = .ok (.goto 4, 3) := by decide +kernel
theorem dX12_holds_280 : decode cX12_holds 280 = .ok (.iconst 0, 1) := by decide +kernel
theorem dX12_holds_281 : decode cX12_holds 281 = .ok (.ireturn, 1) := by decide +kernel
theorem dX12_holds_282 : decode cX12_holds 282 = .ok (.aload_n 0, 1) := by decide +kernel
theorem dX12_holds_283 : decode cX12_holds 283 = .ok (.aload_n 1, 1) := by decide +kernel
theorem dX12_holds_284 : decode cX12_holds 284 = .ok (.aload_n 0, 1) := by decide +kernel
theorem dX12_holds_285 : decode cX12_holds 285 = .ok (.getfield 13, 3) := by decide +kernel
theorem dX12_holds_288 : decode cX12_holds 288 = .ok (.iload_n 2, 1) := by decide +kernel
theorem dX12_holds_289 : decode cX12_holds 289 = .ok (.iaload, 1) := by decide +kernel
theorem dX12_holds_290 : decode cX12_holds 290 = .ok (.iload_n 3, 1) := by decide +kernel
theorem dX12_holds_291 : decode cX12_holds 291 = .ok (.invokevirtual 53, 3) := by decide +kernel
theorem dX12_holds_294 : decode cX12_holds 294 = .ok (.ifCond .ne 7, 3) := by decide +kernel
theorem dX12_holds_297 : decode cX12_holds 297 = .ok (.iconst 1, 1) := by decide +kernel
theorem dX12_holds_298 : decode cX12_holds 298 = .ok (.goto 4, 3) := by decide +kernel
theorem dX12_holds_301 : decode cX12_holds 301 = .ok (.iconst 0, 1) := by decide +kernel
theorem dX12_holds_302 : decode cX12_holds 302 = .ok (.ireturn, 1) := by decide +kernel
theorem dX12_may_0 : decode cX12_may 0 = .ok (.aload_n 0, 1) := by decide +kernel
theorem dX12_may_1 : decode cX12_may 1 = .ok (.getfield 22, 3) := by decide +kernel
theorem dX12_may_4 : decode cX12_may 4 = .ok (.iload_n 3, 1) := by decide +kernel
theorem dX12_may_5 : decode cX12_may 5 = .ok (.iaload, 1) := by decide +kernel
theorem dX12_may_6 : decode cX12_may 6 = .ok (.ifCond .lt 18, 3) := by decide +kernel
theorem dX12_may_9 : decode cX12_may 9 = .ok (.aload_n 0, 1) := by decide +kernel
theorem dX12_may_10 : decode cX12_may 10 = .ok (.aload_n 1, 1) := by decide +kernel
theorem dX12_may_11 : decode cX12_may 11 = .ok (.aload_n 0, 1) := by decide +kernel
theorem dX12_may_12 : decode cX12_may 12 = .ok (.getfield 22, 3) := by decide +kernel
theorem dX12_may_15 : decode cX12_may 15 = .ok (.iload_n 3, 1) := by decide +kernel
theorem dX12_may_16 : decode cX12_may 16 = .ok (.iaload, 1) := by decide +kernel
theorem dX12_may_17 : decode cX12_may 17 = .ok (.iload_n 2, 1) := by decide +kernel
theorem dX12_may_18 : decode cX12_may 18 = .ok (.invokevirtual 53, 3) := by decide +kernel
theorem dX12_may_21 : decode cX12_may 21 = .ok (.ifCond .eq 7, 3) := by decide +kernel
theorem dX12_may_24 : decode cX12_may 24 = .ok (.iconst 1, 1) := by decide +kernel
theorem dX12_may_25 : decode cX12_may 25 = .ok (.goto 4, 3) := by decide +kernel
theorem dX12_may_28 : decode cX12_may 28 = .ok (.iconst 0, 1) := by decide +kernel
theorem dX12_may_29 : decode cX12_may 29 = .ok (.ireturn, 1) := by decide +kernel
theorem dX12_load_0 : decode cX12_load 0 = .ok (.iconst 0, 1) := by decide +kernel
theorem dX12_load_1 : decode cX12_load 1 = .ok (.istore_n 3, 1) := by decide +kernel
theorem dX12_load_2 : decode cX12_load 2 = .ok (.iconst 0, 1) := by decide +kernel
theorem dX12_load_3 : decode cX12_load 3 = .ok (.istore 4, 2) := by decide +kernel
theorem dX12_load_5 : decode cX12_load 5 = .ok (.iload 4, 2) := by decide +kernel
theorem dX12_load_7 : decode cX12_load 7 = .ok (.iconst 5, 1) := by decide +kernel
theorem dX12_load_8 : decode cX12_load 8 = .ok (.if_icmp .ge 33, 3) := by decide +kernel
theorem dX12_load_11 : decode cX12_load 11 = .ok (.iload_n 3, 1) := by decide +kernel
theorem dX12_load_12 : decode cX12_load 12 = .ok (.aload_n 1, 1) := by decide +kernel
theorem dX12_load_13 : decode cX12_load 13 = .ok (.iload_n 2, 1) := by decide +kernel
theorem dX12_load_14 : decode cX12_load 14 = .ok (.iload 4, 2) := by decide +kernel
theorem dX12_load_16 : decode cX12_load 16 = .ok (.invokevirtual 43, 3) := by decide +kernel
theorem dX12_load_19 : decode cX12_load 19 = .ok (.ifCond .eq 13, 3) := by decide +kernel
theorem dX12_load_22 : decode cX12_load 22 = .ok (.aload_n 0, 1) := by decide +kernel
theorem dX12_load_23 : decode cX12_load 23 = .ok (.getfield 25, 3) := by decide +kernel
theorem dX12_load_26 : decode cX12_load 26 = .ok (.iload 4, 2) := by decide +kernel
theorem dX12_load_28 : decode cX12_load 28 = .ok (.iaload, 1) := by decide +kernel
theorem dX12_load_29 : decode cX12_load 29 = .ok (.goto 4, 3) := by decide +kernel
theorem dX12_load_32 : decode cX12_load 32 = .ok (.iconst 0, 1) := by decide +kernel
theorem dX12_load_33 : decode cX12_load 33 = .ok (.iadd, 1) := by decide +kernel
theorem dX12_load_34 : decode cX12_load 34 = .ok (.istore_n 3, 1) := by decide +kernel
theorem dX12_load_35 : decode cX12_load 35 = .ok (.iinc 4 1, 3) := by decide +kernel
theorem dX12_load_38 : decode cX12_load 38 = .ok (.goto (-33), 3) := by decide +kernel
theorem dX12_load_41 : decode cX12_load 41 = .ok (.iload_n 3, 1) := by decide +kernel
theorem dX12_load_42 : decode cX12_load 42 = .ok (.ireturn, 1) := by decide +kernel
theorem dX12_earned_0 : decode cX12_earned 0 = .ok (.iconst 0, 1) := by decide +kernel
theorem dX12_earned_1 : decode cX12_earned 1 = .ok (.istore_n 3, 1) := by decide +kernel
theorem dX12_earned_2 : decode cX12_earned 2 = .ok (.iconst 0, 1) := by decide +kernel
theorem dX12_earned_3 : decode cX12_earned 3 = .ok (.istore 4, 2) := by decide +kernel
theorem dX12_earned_5 : decode cX12_earned 5 = .ok (.iload 4, 2) := by decide +kernel
theorem dX12_earned_7 : decode cX12_earned 7 = .ok (.iconst 5, 1) := by decide +kernel
theorem dX12_earned_8 : decode cX12_earned 8 = .ok (.if_icmp .ge 35, 3) := by decide +kernel
theorem dX12_earned_11 : decode cX12_earned 11 = .ok (.iload_n 3, 1) := by decide +kernel
theorem dX12_earned_12 : decode cX12_earned 12 = .ok (.aload_n 1, 1) := by decide +kernel
theorem dX12_earned_13 : decode cX12_earned 13 = .ok (.iload_n 2, 1) := by decide +kernel
theorem dX12_earned_14 : decode cX12_earned 14 = .ok (.iload 4, 2) := by decide +kernel
theorem dX12_earned_16 : decode cX12_earned 16 = .ok (.invokestatic 37, 3) := by decide +kernel
theorem dX12_earned_19 : decode cX12_earned 19 = .ok (.bipush 50, 2) := by decide +kernel
theorem dX12_earned_21 : decode cX12_earned 21 = .ok (.if_icmp .lt 13, 3) := by decide +kernel
theorem dX12_earned_24 : decode cX12_earned 24 = .ok (.aload_n 0, 1) := by decide +kernel
theorem dX12_earned_25 : decode cX12_earned 25 = .ok (.getfield 25, 3) := by decide +kernel
theorem dX12_earned_28 : decode cX12_earned 28 = .ok (.iload 4, 2) := by decide +kernel
theorem dX12_earned_30 : decode cX12_earned 30 = .ok (.iaload, 1) := by decide +kernel
theorem dX12_earned_31 : decode cX12_earned 31 = .ok (.goto 4, 3) := by decide +kernel
theorem dX12_earned_34 : decode cX12_earned 34 = .ok (.iconst 0, 1) := by decide +kernel
theorem dX12_earned_35 : decode cX12_earned 35 = .ok (.iadd, 1) := by decide +kernel
theorem dX12_earned_36 : decode cX12_earned 36 = .ok (.istore_n 3, 1) := by decide +kernel
theorem dX12_earned_37 : decode cX12_earned 37 = .ok (.iinc 4 1, 3) := by decide +kernel
theorem dX12_earned_40 : decode cX12_earned 40 = .ok (.goto (-35), 3) := by decide +kernel
theorem dX12_earned_43 : decode cX12_earned 43 = .ok (.iload_n 3, 1) := by decide +kernel
theorem dX12_earned_44 : decode cX12_earned 44 = .ok (.ireturn, 1) := by decide +kernel
theorem dX12_of_0 : decode cX12_of 0 = .ok (.iconst 0, 1) := by decide +kernel
theorem dX12_of_1 : decode cX12_of 1 = .ok (.istore 4, 2) := by decide +kernel
theorem dX12_of_3 : decode cX12_of 3 = .ok (.iconst 0, 1) := by decide +kernel
theorem dX12_of_4 : decode cX12_of 4 = .ok (.istore 5, 2) := by decide +kernel
theorem dX12_of_6 : decode cX12_of 6 = .ok (.iload 5, 2) := by decide +kernel
theorem dX12_of_8 : decode cX12_of 8 = .ok (.iconst 5, 1) := by decide +kernel
theorem dX12_of_9 : decode cX12_of 9 = .ok (.if_icmp .ge 44, 3) := by decide +kernel
theorem dX12_of_12 : decode cX12_of 12 = .ok (.iload 4, 2) := by decide +kernel
theorem dX12_of_14 : decode cX12_of 14 = .ok (.aload_n 1, 1) := by decide +kernel
theorem dX12_of_15 : decode cX12_of 15 = .ok (.iload 5, 2) := by decide +kernel
theorem dX12_of_17 : decode cX12_of 17 = .ok (.iload_n 2, 1) := by decide +kernel
theorem dX12_of_18 : decode cX12_of 18 = .ok (.invokevirtual 43, 3) := by decide +kernel
theorem dX12_of_21 : decode cX12_of 21 = .ok (.ifCond .eq 22, 3) := by decide +kernel
theorem dX12_of_24 : decode cX12_of 24 = .ok (.iload_n 3, 1) := by decide +kernel
theorem dX12_of_25 : decode cX12_of 25 = .ok (.ifCond .lt 14, 3) := by decide +kernel
theorem dX12_of_28 : decode cX12_of 28 = .ok (.aload_n 0, 1) := by decide +kernel
theorem dX12_of_29 : decode cX12_of 29 = .ok (.getfield 34, 3) := by decide +kernel
theorem dX12_of_32 : decode cX12_of 32 = .ok (.iload 5, 2) := by decide +kernel
theorem dX12_of_34 : decode cX12_of 34 = .ok (.iaload, 1) := by decide +kernel
theorem dX12_of_35 : decode cX12_of 35 = .ok (.iload_n 3, 1) := by decide +kernel
theorem dX12_of_36 : decode cX12_of 36 = .ok (.if_icmp .ne 7, 3) := by decide +kernel
theorem dX12_of_39 : decode cX12_of 39 = .ok (.iconst 1, 1) := by decide +kernel
theorem dX12_of_40 : decode cX12_of 40 = .ok (.goto 4, 3) := by decide +kernel
theorem dX12_of_43 : decode cX12_of 43 = .ok (.iconst 0, 1) := by decide +kernel
theorem dX12_of_44 : decode cX12_of 44 = .ok (.iadd, 1) := by decide +kernel
theorem dX12_of_45 : decode cX12_of 45 = .ok (.istore 4, 2) := by decide +kernel
theorem dX12_of_47 : decode cX12_of 47 = .ok (.iinc 5 1, 3) := by decide +kernel
theorem dX12_of_50 : decode cX12_of 50 = .ok (.goto (-44), 3) := by decide +kernel
theorem dX12_of_53 : decode cX12_of 53 = .ok (.iload 4, 2) := by decide +kernel
theorem dX12_of_55 : decode cX12_of 55 = .ok (.ireturn, 1) := by decide +kernel
theorem dX12_free_0 : decode cX12_free 0 = .ok (.aload_n 0, 1) := by decide +kernel
theorem dX12_free_1 : decode cX12_free 1 = .ok (.getfield 28, 3) := by decide +kernel
theorem dX12_free_4 : decode cX12_free 4 = .ok (.iload_n 2, 1) := by decide +kernel
theorem dX12_free_5 : decode cX12_free 5 = .ok (.iaload, 1) := by decide +kernel
theorem dX12_free_6 : decode cX12_free 6 = .ok (.aload_n 0, 1) := by decide +kernel
theorem dX12_free_7 : decode cX12_free 7 = .ok (.aload_n 1, 1) := by decide +kernel
theorem dX12_free_8 : decode cX12_free 8 = .ok (.iload_n 2, 1) := by decide +kernel
theorem dX12_free_9 : decode cX12_free 9 = .ok (.iconst (-1), 1) := by decide +kernel
theorem dX12_free_10 : decode cX12_free 10 = .ok (.invokevirtual 57, 3) := by decide +kernel
theorem dX12_free_13 : decode cX12_free 13 = .ok (.isub, 1) := by decide +kernel
theorem dX12_free_14 : decode cX12_free 14 = .ok (.istore 4, 2) := by decide +kernel
theorem dX12_free_16 : decode cX12_free 16 = .ok (.iconst 0, 1) := by decide +kernel
theorem dX12_free_17 : decode cX12_free 17 = .ok (.istore 5, 2) := by decide +kernel
theorem dX12_free_19 : decode cX12_free 19 = .ok (.iload 5, 2) := by decide +kernel
theorem dX12_free_21 : decode cX12_free 21 = .ok (.iconst 4, 1) := by decide +kernel
theorem dX12_free_22 : decode cX12_free 22 = .ok (.if_icmp .ge 56, 3) := by decide +kernel
theorem dX12_free_25 : decode cX12_free 25 = .ok (.aload_n 1, 1) := by decide +kernel
theorem dX12_free_26 : decode cX12_free 26 = .ok (.invokevirtual 60, 3) := by decide +kernel
theorem dX12_free_29 : decode cX12_free 29 = .ok (.iconst 4, 1) := by decide +kernel
theorem dX12_free_30 : decode cX12_free 30 = .ok (.if_icmp .ge 48, 3) := by decide +kernel
theorem dX12_free_33 : decode cX12_free 33 = .ok (.iload 4, 2) := by decide +kernel
theorem dX12_free_35 : decode cX12_free 35 = .ok (.iload 5, 2) := by decide +kernel
theorem dX12_free_37 : decode cX12_free 37 = .ok (.iload_n 3, 1) := by decide +kernel
theorem dX12_free_38 : decode cX12_free 38 = .ok (.if_icmp .ne 7, 3) := by decide +kernel
theorem dX12_free_41 : decode cX12_free 41 = .ok (.iconst 0, 1) := by decide +kernel
theorem dX12_free_42 : decode cX12_free 42 = .ok (.goto 27, 3) := by decide +kernel
theorem dX12_free_45 : decode cX12_free 45 = .ok (.iconst 0, 1) := by decide +kernel
theorem dX12_free_46 : decode cX12_free 46 = .ok (.aload_n 0, 1) := by decide +kernel
theorem dX12_free_47 : decode cX12_free 47 = .ok (.getfield 31, 3) := by decide +kernel
theorem dX12_free_50 : decode cX12_free 50 = .ok (.iconst 4, 1) := by decide +kernel
theorem dX12_free_51 : decode cX12_free 51 = .ok (.iload_n 2, 1) := by decide +kernel
theorem dX12_free_52 : decode cX12_free 52 = .ok (.imul, 1) := by decide +kernel
theorem dX12_free_53 : decode cX12_free 53 = .ok (.iload 5, 2) := by decide +kernel
theorem dX12_free_55 : decode cX12_free 55 = .ok (.iadd, 1) := by decide +kernel
theorem dX12_free_56 : decode cX12_free 56 = .ok (.iaload, 1) := by decide +kernel
theorem dX12_free_57 : decode cX12_free 57 = .ok (.aload_n 0, 1) := by decide +kernel
theorem dX12_free_58 : decode cX12_free 58 = .ok (.aload_n 1, 1) := by decide +kernel
theorem dX12_free_59 : decode cX12_free 59 = .ok (.iload_n 2, 1) := by decide +kernel
theorem dX12_free_60 : decode cX12_free 60 = .ok (.iload 5, 2) := by decide +kernel
theorem dX12_free_62 : decode cX12_free 62 = .ok (.invokevirtual 57, 3) := by decide +kernel
theorem dX12_free_65 : decode cX12_free 65 = .ok (.isub, 1) := by decide +kernel
theorem dX12_free_66 : decode cX12_free 66 = .ok (.invokestatic 64, 3) := by decide +kernel
theorem dX12_free_69 : decode cX12_free 69 = .ok (.isub, 1) := by decide +kernel
theorem dX12_free_70 : decode cX12_free 70 = .ok (.istore 4, 2) := by decide +kernel
theorem dX12_free_72 : decode cX12_free 72 = .ok (.iinc 5 1, 3) := by decide +kernel
theorem dX12_free_75 : decode cX12_free 75 = .ok (.goto (-56), 3) := by decide +kernel
theorem dX12_free_78 : decode cX12_free 78 = .ok (.iconst 0, 1) := by decide +kernel
theorem dX12_free_79 : decode cX12_free 79 = .ok (.iload 4, 2) := by decide +kernel
theorem dX12_free_81 : decode cX12_free 81 = .ok (.invokestatic 64, 3) := by decide +kernel
theorem dX12_free_84 : decode cX12_free 84 = .ok (.ireturn, 1) := by decide +kernel
theorem dX12_would_0 : decode cX12_would 0 = .ok (.aload_n 1, 1) := by decide +kernel
theorem dX12_would_1 : decode cX12_would 1 = .ok (.invokevirtual 60, 3) := by decide +kernel
theorem dX12_would_4 : decode cX12_would 4 = .ok (.iconst 5, 1) := by decide +kernel
theorem dX12_would_5 : decode cX12_would 5 = .ok (.if_icmp .le 6, 3) := by decide +kernel
theorem dX12_would_8 : decode cX12_would 8 = .ok (.bipush 100, 2) := by decide +kernel
theorem dX12_would_10 : decode cX12_would 10 = .ok (.ireturn, 1) := by decide +kernel
theorem dX12_would_11 : decode cX12_would 11 = .ok (.aload_n 1, 1) := by decide +kernel
theorem dX12_would_12 : decode cX12_would 12 = .ok (.iload_n 2, 1) := by decide +kernel
theorem dX12_would_13 : decode cX12_would 13 = .ok (.iload_n 3, 1) := by decide +kernel
theorem dX12_would_14 : decode cX12_would 14 = .ok (.invokevirtual 43, 3) := by decide +kernel
theorem dX12_would_17 : decode cX12_would 17 = .ok (.ifCond .ne 12, 3) := by decide +kernel
theorem dX12_would_20 : decode cX12_would 20 = .ok (.aload_n 1, 1) := by decide +kernel
theorem dX12_would_21 : decode cX12_would 21 = .ok (.iload_n 2, 1) := by decide +kernel
theorem dX12_would_22 : decode cX12_would 22 = .ok (.iload_n 3, 1) := by decide +kernel
theorem dX12_would_23 : decode cX12_would 23 = .ok (.invokestatic 70, 3) := by decide +kernel
theorem dX12_would_26 : decode cX12_would 26 = .ok (.ifCond .lt 6, 3) := by decide +kernel
theorem dX12_would_29 : decode cX12_would 29 = .ok (.bipush 105, 2) := by decide +kernel
theorem dX12_would_31 : decode cX12_would 31 = .ok (.ireturn, 1) := by decide +kernel
theorem dX12_would_32 : decode cX12_would 32 = .ok (.aload_n 0, 1) := by decide +kernel
theorem dX12_would_33 : decode cX12_would 33 = .ok (.aload_n 1, 1) := by decide +kernel
theorem dX12_would_34 : decode cX12_would 34 = .ok (.iload_n 2, 1) := by decide +kernel
theorem dX12_would_35 : decode cX12_would 35 = .ok (.iload_n 3, 1) := by decide +kernel
theorem dX12_would_36 : decode cX12_would 36 = .ok (.invokevirtual 73, 3) := by decide +kernel
theorem dX12_would_39 : decode cX12_would 39 = .ok (.ifCond .ne 6, 3) := by decide +kernel
theorem dX12_would_42 : decode cX12_would 42 = .ok (.bipush 114, 2) := by decide +kernel
theorem dX12_would_44 : decode cX12_would 44 = .ok (.ireturn, 1) := by decide +kernel
theorem dX12_would_45 : decode cX12_would 45 = .ok (.aload_n 1, 1) := by decide +kernel
theorem dX12_would_46 : decode cX12_would 46 = .ok (.iload_n 2, 1) := by decide +kernel
theorem dX12_would_47 : decode cX12_would 47 = .ok (.iload_n 3, 1) := by decide +kernel
theorem dX12_would_48 : decode cX12_would 48 = .ok (.invokevirtual 76, 3) := by decide +kernel
theorem dX12_would_51 : decode cX12_would 51 = .ok (.iconst 3, 1) := by decide +kernel
theorem dX12_would_52 : decode cX12_would 52 = .ok (.if_icmp .ne 6, 3) := by decide +kernel
theorem dX12_would_55 : decode cX12_would 55 = .ok (.bipush 97, 2) := by decide +kernel
theorem dX12_would_57 : decode cX12_would 57 = .ok (.ireturn, 1) := by decide +kernel
theorem dX12_would_58 : decode cX12_would 58 = .ok (.aload_n 0, 1) := by decide +kernel
theorem dX12_would_59 : decode cX12_would 59 = .ok (.aload_n 1, 1) := by decide +kernel
theorem dX12_would_60 : decode cX12_would 60 = .ok (.iload_n 2, 1) := by decide +kernel
theorem dX12_would_61 : decode cX12_would 61 = .ok (.invokevirtual 79, 3) := by decide +kernel
theorem dX12_would_64 : decode cX12_would 64 = .ok (.aload_n 0, 1) := by decide +kernel
theorem dX12_would_65 : decode cX12_would 65 = .ok (.getfield 25, 3) := by decide +kernel
theorem dX12_would_68 : decode cX12_would 68 = .ok (.iload_n 3, 1) := by decide +kernel
theorem dX12_would_69 : decode cX12_would 69 = .ok (.iaload, 1) := by decide +kernel
theorem dX12_would_70 : decode cX12_would 70 = .ok (.iadd, 1) := by decide +kernel
theorem dX12_would_71 : decode cX12_would 71 = .ok (.bipush 18, 2) := by decide +kernel
theorem dX12_would_73 : decode cX12_would 73 = .ok (.if_icmp .le 6, 3) := by decide +kernel
theorem dX12_would_76 : decode cX12_would 76 = .ok (.bipush 99, 2) := by decide +kernel
theorem dX12_would_78 : decode cX12_would 78 = .ok (.ireturn, 1) := by decide +kernel
theorem dX12_would_79 : decode cX12_would 79 = .ok (.aload_n 0, 1) := by decide +kernel
theorem dX12_would_80 : decode cX12_would 80 = .ok (.aload_n 1, 1) := by decide +kernel
theorem dX12_would_81 : decode cX12_would 81 = .ok (.iload_n 3, 1) := by decide +kernel
theorem dX12_would_82 : decode cX12_would 82 = .ok (.aload_n 0, 1) := by decide +kernel
theorem dX12_would_83 : decode cX12_would 83 = .ok (.getfield 34, 3) := by decide +kernel
theorem dX12_would_86 : decode cX12_would 86 = .ok (.iload_n 2, 1) := by decide +kernel
theorem dX12_would_87 : decode cX12_would 87 = .ok (.iaload, 1) := by decide +kernel
theorem dX12_would_88 : decode cX12_would 88 = .ok (.invokevirtual 83, 3) := by decide +kernel
theorem dX12_would_91 : decode cX12_would 91 = .ok (.ifCond .le 8, 3) := by decide +kernel
theorem dX12_would_94 : decode cX12_would 94 = .ok (.bipush 101, 2) := by decide +kernel
theorem dX12_would_96 : decode cX12_would 96 = .ok (.goto 20, 3) := by decide +kernel
theorem dX12_would_99 : decode cX12_would 99 = .ok (.aload_n 1, 1) := by decide +kernel
theorem dX12_would_100 : decode cX12_would 100 = .ok (.iload_n 3, 1) := by decide +kernel
theorem dX12_would_101 : decode cX12_would 101 = .ok (.invokevirtual 86, 3) := by decide +kernel
theorem dX12_would_104 : decode cX12_would 104 = .ok (.bipush 6, 2) := by decide +kernel
theorem dX12_would_106 : decode cX12_would 106 = .ok (.if_icmp .ne 8, 3) := by decide +kernel
theorem dX12_would_109 : decode cX12_would 109 = .ok (.bipush 102, 2) := by decide +kernel
theorem dX12_would_111 : decode cX12_would 111 = .ok (.goto 5, 3) := by decide +kernel
theorem dX12_would_114 : decode cX12_would 114 = .ok (.bipush 119, 2) := by decide +kernel
theorem dX12_would_116 : decode cX12_would 116 = .ok (.ireturn, 1) := by decide +kernel
theorem dJx00060_init_a7421_0 : decode cJx00060_init_a7421 0 = .ok (.aload_n 0, 1) := by decide +kernel
theorem dJx00060_init_a7421_1 : decode cJx00060_init_a7421 1 = .ok (.aload_n 1, 1) := by decide +kernel
theorem dJx00060_init_a7421_2 : decode cJx00060_init_a7421 2 = .ok (.invokespecial 7, 3) := by decide +kernel
theorem dJx00060_init_a7421_5 : decode cJx00060_init_a7421 5 = .ok (.return_, 1) := by decide +kernel
theorem dJ9_max_7cf53_0 : decode cJ9_max_7cf53 0 = .ok (.iload_n 0, 1) := by decide +kernel
theorem dJ9_max_7cf53_1 : decode cJ9_max_7cf53 1 = .ok (.iload_n 1, 1) := by decide +kernel
theorem dJ9_max_7cf53_2 : decode cJ9_max_7cf53 2 = .ok (.if_icmp .lt 7, 3) := by decide +kernel
theorem dJ9_max_7cf53_5 : decode cJ9_max_7cf53 5 = .ok (.iload_n 0, 1) := by decide +kernel
theorem dJ9_max_7cf53_6 : decode cJ9_max_7cf53 6 = .ok (.goto 4, 3) := by decide +kernel
theorem dJ9_max_7cf53_9 : decode cJ9_max_7cf53 9 = .ok (.iload_n 1, 1) := by decide +kernel
theorem dJ9_max_7cf53_10 : decode cJ9_max_7cf53 10 = .ok (.ireturn, 1) := by decide +kernel
theorem dJ9_min_7cf53_0 : decode cJ9_min_7cf53 0 = .ok (.iload_n 0, 1) := by decide +kernel
theorem dJ9_min_7cf53_1 : decode cJ9_min_7cf53 1 = .ok (.iload_n 1, 1) := by decide +kernel
theorem dJ9_min_7cf53_2 : decode cJ9_min_7cf53 2 = .ok (.if_icmp .gt 7, 3) := by decide +kernel
theorem dJ9_min_7cf53_5 : decode cJ9_min_7cf53 5 = .ok (.iload_n 0, 1) := by decide +kernel
theorem dJ9_min_7cf53_6 : decode cJ9_min_7cf53 6 = .ok (.goto 4, 3) := by decide +kernel
theorem dJ9_min_7cf53_9 : decode cJ9_min_7cf53 9 = .ok (.iload_n 1, 1) := by decide +kernel
theorem dJ9_min_7cf53_10 : decode cJ9_min_7cf53 10 = .ok (.ireturn, 1) := by decide +kernel
theorem dJxa1e45_init_da8c8_0 : decode cJxa1e45_init_da8c8 0 = .ok (.aload_n 0, 1) := by decide +kernel
theorem dJxa1e45_init_da8c8_1 : decode cJxa1e45_init_da8c8 1 = .ok (.invokespecial 1, 3) := by decide +kernel
theorem dJxa1e45_init_da8c8_4 : decode cJxa1e45_init_da8c8 4 = .ok (.return_, 1) := by decide +kernel
theorem dJxc12de_init_da8c8_0 : decode cJxc12de_init_da8c8 0 = .ok (.aload_n 0, 1) := by decide +kernel
theorem dJxc12de_init_da8c8_1 : decode cJxc12de_init_da8c8 1 = .ok (.invokespecial 1, 3) := by decide +kernel
theorem dJxc12de_init_da8c8_4 : decode cJxc12de_init_da8c8 4 = .ok (.aload_n 0, 1) := by decide +kernel
theorem dJxc12de_init_da8c8_5 : decode cJxc12de_init_da8c8 5 = .ok (.iconst 0, 1) := by decide +kernel
theorem dJxc12de_init_da8c8_6 : decode cJxc12de_init_da8c8 6 = .ok (.putfield 7, 3) := by decide +kernel
theorem dJxc12de_init_da8c8_9 : decode cJxc12de_init_da8c8 9 = .ok (.return_, 1) := by decide +kernel
theorem dJx4a65c_init_da8c8_0 : decode cJx4a65c_init_da8c8 0 = .ok (.aload_n 0, 1) := by decide +kernel
theorem dJx4a65c_init_da8c8_1 : decode cJx4a65c_init_da8c8 1 = .ok (.invokespecial 1, 3) := by decide +kernel
theorem dJx4a65c_init_da8c8_4 : decode cJx4a65c_init_da8c8 4 = .ok (.aload_n 0, 1) := by decide +kernel
theorem dJx4a65c_init_da8c8_5 : decode cJx4a65c_init_da8c8 5 = .ok (.getstatic 39, 3) := by decide +kernel
theorem dJx4a65c_init_da8c8_8 : decode cJx4a65c_init_da8c8 8 = .ok (.putfield 9, 3) := by decide +kernel
theorem dJx4a65c_init_da8c8_11 : decode cJx4a65c_init_da8c8 11 = .ok (.return_, 1) := by decide +kernel
theorem dJx4a65c_grow_92f84_0 : decode cJx4a65c_grow_92f84 0 = .ok (.aload_n 0, 1) := by decide +kernel
theorem dJx4a65c_grow_92f84_1 : decode cJx4a65c_grow_92f84 1 = .ok (.getfield 9, 3) := by decide +kernel
theorem dJx4a65c_grow_92f84_4 : decode cJx4a65c_grow_92f84 4 = .ok (.arraylength, 1) := by decide +kernel
theorem dJx4a65c_grow_92f84_5 : decode cJx4a65c_grow_92f84 5 = .ok (.istore_n 2, 1) := by decide +kernel
theorem dJx4a65c_grow_92f84_6 : decode cJx4a65c_grow_92f84 6 = .ok (.iload_n 2, 1) := by decide +kernel
theorem dJx4a65c_grow_92f84_7 : decode cJx4a65c_grow_92f84 7 = .ok (.ifCond .gt 13, 3) := by decide +kernel
theorem dJx4a65c_grow_92f84_10 : decode cJx4a65c_grow_92f84 10 = .ok (.aload_n 0, 1) := by decide +kernel
theorem dJx4a65c_grow_92f84_11 : decode cJx4a65c_grow_92f84 11 = .ok (.getfield 9, 3) := by decide +kernel
theorem dJx4a65c_grow_92f84_14 : decode cJx4a65c_grow_92f84 14 = .ok (.getstatic 39, 3) := by decide +kernel
theorem dJx4a65c_grow_92f84_17 : decode cJx4a65c_grow_92f84 17 = .ok (.if_acmp .eq 28, 3) := by decide +kernel
theorem dJx4a65c_grow_92f84_20 : decode cJx4a65c_grow_92f84 20 = .ok (.iload_n 2, 1) := by decide +kernel
theorem dJx4a65c_grow_92f84_21 : decode cJx4a65c_grow_92f84 21 = .ok (.iload_n 1, 1) := by decide +kernel
theorem dJx4a65c_grow_92f84_22 : decode cJx4a65c_grow_92f84 22 = .ok (.iload_n 2, 1) := by decide +kernel
theorem dJx4a65c_grow_92f84_23 : decode cJx4a65c_grow_92f84 23 = .ok (.isub, 1) := by decide +kernel
theorem dJx4a65c_grow_92f84_24 : decode cJx4a65c_grow_92f84 24 = .ok (.iload_n 2, 1) := by decide +kernel
theorem dJx4a65c_grow_92f84_25 : decode cJx4a65c_grow_92f84 25 = .ok (.iconst 1, 1) := by decide +kernel
theorem dJx4a65c_grow_92f84_26 : decode cJx4a65c_grow_92f84 26 = .ok (.ishr, 1) := by decide +kernel
theorem dJx4a65c_grow_92f84_27 : decode cJx4a65c_grow_92f84 27 = .ok (.invokestatic 73, 3) := by decide +kernel
theorem dJx4a65c_grow_92f84_30 : decode cJx4a65c_grow_92f84 30 = .ok (.istore_n 3, 1) := by decide +kernel
theorem dJx4a65c_grow_92f84_31 : decode cJx4a65c_grow_92f84 31 = .ok (.aload_n 0, 1) := by decide +kernel
theorem dJx4a65c_grow_92f84_32 : decode cJx4a65c_grow_92f84 32 = .ok (.aload_n 0, 1) := by decide +kernel
theorem dJx4a65c_grow_92f84_33 : decode cJx4a65c_grow_92f84 33 = .ok (.getfield 9, 3) := by decide +kernel
theorem dJx4a65c_grow_92f84_36 : decode cJx4a65c_grow_92f84 36 = .ok (.iload_n 3, 1) := by decide +kernel
theorem dJx4a65c_grow_92f84_37 : decode cJx4a65c_grow_92f84 37 = .ok (.invokestatic 66, 3) := by decide +kernel
theorem dJx4a65c_grow_92f84_40 : decode cJx4a65c_grow_92f84 40 = .ok (.dup_x1, 1) := by decide +kernel
theorem dJx4a65c_grow_92f84_41 : decode cJx4a65c_grow_92f84 41 = .ok (.putfield 9, 3) := by decide +kernel
theorem dJx4a65c_grow_92f84_44 : decode cJx4a65c_grow_92f84 44 = .ok (.areturn, 1) := by decide +kernel
theorem dJx4a65c_grow_92f84_45 : decode cJx4a65c_grow_92f84 45 = .ok (.aload_n 0, 1) := by decide +kernel
theorem dJx4a65c_grow_92f84_46 : decode cJx4a65c_grow_92f84 46 = .ok (.bipush 10, 2) := by decide +kernel
theorem dJx4a65c_grow_92f84_48 : decode cJx4a65c_grow_92f84 48 = .ok (.iload_n 1, 1) := by decide +kernel
theorem dJx4a65c_grow_92f84_49 : decode cJx4a65c_grow_92f84 49 = .ok (.invokestatic 79, 3) := by decide +kernel
theorem dJx4a65c_grow_92f84_52 : decode cJx4a65c_grow_92f84 52 = .ok (.anewarray 7, 3) := by decide +kernel
theorem dJx4a65c_grow_92f84_55 : decode cJx4a65c_grow_92f84 55 = .ok (.dup_x1, 1) := by decide +kernel
theorem dJx4a65c_grow_92f84_56 : decode cJx4a65c_grow_92f84 56 = .ok (.putfield 9, 3) := by decide +kernel
theorem dJx4a65c_grow_92f84_59 : decode cJx4a65c_grow_92f84 59 = .ok (.areturn, 1) := by decide +kernel
theorem dJx4a65c_grow_d5877_0 : decode cJx4a65c_grow_d5877 0 = .ok (.aload_n 0, 1) := by decide +kernel
theorem dJx4a65c_grow_d5877_1 : decode cJx4a65c_grow_d5877 1 = .ok (.aload_n 0, 1) := by decide +kernel
theorem dJx4a65c_grow_d5877_2 : decode cJx4a65c_grow_d5877 2 = .ok (.getfield 48, 3) := by decide +kernel
theorem dJx4a65c_grow_d5877_5 : decode cJx4a65c_grow_d5877 5 = .ok (.iconst 1, 1) := by decide +kernel
theorem dJx4a65c_grow_d5877_6 : decode cJx4a65c_grow_d5877 6 = .ok (.iadd, 1) := by decide +kernel
theorem dJx4a65c_grow_d5877_7 : decode cJx4a65c_grow_d5877 7 = .ok (.invokevirtual 69, 3) := by decide +kernel
theorem dJx4a65c_grow_d5877_10 : decode cJx4a65c_grow_d5877 10 = .ok (.areturn, 1) := by decide +kernel
theorem dJx4a65c_size_8abf5_0 : decode cJx4a65c_size_8abf5 0 = .ok (.aload_n 0, 1) := by decide +kernel
theorem dJx4a65c_size_8abf5_1 : decode cJx4a65c_size_8abf5 1 = .ok (.getfield 48, 3) := by decide +kernel
theorem dJx4a65c_size_8abf5_4 : decode cJx4a65c_size_8abf5 4 = .ok (.ireturn, 1) := by decide +kernel
theorem dJx4a65c_elementData_915e3_0 : decode cJx4a65c_elementData_915e3 0 = .ok (.aload_n 0, 1) := by decide +kernel
theorem dJx4a65c_elementData_915e3_1 : decode cJx4a65c_elementData_915e3 1 = .ok (.getfield 9, 3) := by decide +kernel
theorem dJx4a65c_elementData_915e3_4 : decode cJx4a65c_elementData_915e3 4 = .ok (.iload_n 1, 1) := by decide +kernel
theorem dJx4a65c_elementData_915e3_5 : decode cJx4a65c_elementData_915e3 5 = .ok (.aaload, 1) := by decide +kernel
theorem dJx4a65c_elementData_915e3_6 : decode cJx4a65c_elementData_915e3 6 = .ok (.areturn, 1) := by decide +kernel
theorem dJx4a65c_get_915e3_0 : decode cJx4a65c_get_915e3 0 = .ok (.iload_n 1, 1) := by decide +kernel
theorem dJx4a65c_get_915e3_1 : decode cJx4a65c_get_915e3 1 = .ok (.aload_n 0, 1) := by decide +kernel
theorem dJx4a65c_get_915e3_2 : decode cJx4a65c_get_915e3 2 = .ok (.getfield 48, 3) := by decide +kernel
theorem dJx4a65c_get_915e3_5 : decode cJx4a65c_get_915e3 5 = .ok (.invokestatic 118, 3) := by decide +kernel
theorem dJx4a65c_get_915e3_8 : decode cJx4a65c_get_915e3 8 = .ok (.pop, 1) := by decide +kernel
theorem dJx4a65c_get_915e3_9 : decode cJx4a65c_get_915e3 9 = .ok (.aload_n 0, 1) := by decide +kernel
theorem dJx4a65c_get_915e3_10 : decode cJx4a65c_get_915e3 10 = .ok (.iload_n 1, 1) := by decide +kernel
theorem dJx4a65c_get_915e3_11 : decode cJx4a65c_get_915e3 11 = .ok (.invokevirtual 123, 3) := by decide +kernel
theorem dJx4a65c_get_915e3_14 : decode cJx4a65c_get_915e3 14 = .ok (.areturn, 1) := by decide +kernel
theorem dJx4a65c_add_72be8_0 : decode cJx4a65c_add_72be8 0 = .ok (.iload_n 3, 1) := by decide +kernel
theorem dJx4a65c_add_72be8_1 : decode cJx4a65c_add_72be8 1 = .ok (.aload_n 2, 1) := by decide +kernel
theorem dJx4a65c_add_72be8_2 : decode cJx4a65c_add_72be8 2 = .ok (.arraylength, 1) := by decide +kernel
theorem dJx4a65c_add_72be8_3 : decode cJx4a65c_add_72be8 3 = .ok (.if_icmp .ne 8, 3) := by decide +kernel
theorem dJx4a65c_add_72be8_6 : decode cJx4a65c_add_72be8 6 = .ok (.aload_n 0, 1) := by decide +kernel
theorem dJx4a65c_add_72be8_7 : decode cJx4a65c_add_72be8 7 = .ok (.invokevirtual 129, 3) := by decide +kernel
theorem dJx4a65c_add_72be8_10 : decode cJx4a65c_add_72be8 10 = .ok (.astore_n 2, 1) := by decide +kernel
theorem dJx4a65c_add_72be8_11 : decode cJx4a65c_add_72be8 11 = .ok (.aload_n 2, 1) := by decide +kernel
theorem dJx4a65c_add_72be8_12 : decode cJx4a65c_add_72be8 12 = .ok (.iload_n 3, 1) := by decide +kernel
theorem dJx4a65c_add_72be8_13 : decode cJx4a65c_add_72be8 13 = .ok (.aload_n 1, 1) := by decide +kernel
theorem dJx4a65c_add_72be8_14 : decode cJx4a65c_add_72be8 14 = .ok (.aastore, 1) := by decide +kernel
theorem dJx4a65c_add_72be8_15 : decode cJx4a65c_add_72be8 15 = .ok (.aload_n 0, 1) := by decide +kernel
theorem dJx4a65c_add_72be8_16 : decode cJx4a65c_add_72be8 16 = .ok (.iload_n 3, 1) := by decide +kernel
theorem dJx4a65c_add_72be8_17 : decode cJx4a65c_add_72be8 17 = .ok (.iconst 1, 1) := by decide +kernel
theorem dJx4a65c_add_72be8_18 : decode cJx4a65c_add_72be8 18 = .ok (.iadd, 1) := by decide +kernel
theorem dJx4a65c_add_72be8_19 : decode cJx4a65c_add_72be8 19 = .ok (.putfield 48, 3) := by decide +kernel
theorem dJx4a65c_add_72be8_22 : decode cJx4a65c_add_72be8 22 = .ok (.return_, 1) := by decide +kernel
theorem dJx4a65c_add_9ea2d_0 : decode cJx4a65c_add_9ea2d 0 = .ok (.aload_n 0, 1) := by decide +kernel
theorem dJx4a65c_add_9ea2d_1 : decode cJx4a65c_add_9ea2d 1 = .ok (.dup, 1) := by decide +kernel
theorem dJx4a65c_add_9ea2d_2 : decode cJx4a65c_add_9ea2d 2 = .ok (.getfield 63, 3) := by decide +kernel
theorem dJx4a65c_add_9ea2d_5 : decode cJx4a65c_add_9ea2d 5 = .ok (.iconst 1, 1) := by decide +kernel
theorem dJx4a65c_add_9ea2d_6 : decode cJx4a65c_add_9ea2d 6 = .ok (.iadd, 1) := by decide +kernel
theorem dJx4a65c_add_9ea2d_7 : decode cJx4a65c_add_9ea2d 7 = .ok (.putfield 63, 3) := by decide +kernel
theorem dJx4a65c_add_9ea2d_10 : decode cJx4a65c_add_9ea2d 10 = .ok (.aload_n 0, 1) := by decide +kernel
theorem dJx4a65c_add_9ea2d_11 : decode cJx4a65c_add_9ea2d 11 = .ok (.aload_n 1, 1) := by decide +kernel
theorem dJx4a65c_add_9ea2d_12 : decode cJx4a65c_add_9ea2d 12 = .ok (.aload_n 0, 1) := by decide +kernel
theorem dJx4a65c_add_9ea2d_13 : decode cJx4a65c_add_9ea2d 13 = .ok (.getfield 9, 3) := by decide +kernel
theorem dJx4a65c_add_9ea2d_16 : decode cJx4a65c_add_9ea2d 16 = .ok (.aload_n 0, 1) := by decide +kernel
theorem dJx4a65c_add_9ea2d_17 : decode cJx4a65c_add_9ea2d 17 = .ok (.getfield 48, 3) := by decide +kernel
theorem dJx4a65c_add_9ea2d_20 : decode cJx4a65c_add_9ea2d 20 = .ok (.invokevirtual 131, 3) := by decide +kernel
theorem dJx4a65c_add_9ea2d_23 : decode cJx4a65c_add_9ea2d 23 = .ok (.iconst 1, 1) := by decide +kernel
theorem dJx4a65c_add_9ea2d_24 : decode cJx4a65c_add_9ea2d 24 = .ok (.ireturn, 1) := by decide +kernel
theorem dJx4a65c_remove_915e3_0 : decode cJx4a65c_remove_915e3 0 = .ok (.iload_n 1, 1) := by decide +kernel
theorem dJx4a65c_remove_915e3_1 : decode cJx4a65c_remove_915e3 1 = .ok (.aload_n 0, 1) := by decide +kernel
theorem dJx4a65c_remove_915e3_2 : decode cJx4a65c_remove_915e3 2 = .ok (.getfield 48, 3) := by decide +kernel
theorem dJx4a65c_remove_915e3_5 : decode cJx4a65c_remove_915e3 5 = .ok (.invokestatic 118, 3) := by decide +kernel
theorem dJx4a65c_remove_915e3_8 : decode cJx4a65c_remove_915e3 8 = .ok (.pop, 1) := by decide +kernel
theorem dJx4a65c_remove_915e3_9 : decode cJx4a65c_remove_915e3 9 = .ok (.aload_n 0, 1) := by decide +kernel
theorem dJx4a65c_remove_915e3_10 : decode cJx4a65c_remove_915e3 10 = .ok (.getfield 9, 3) := by decide +kernel
theorem dJx4a65c_remove_915e3_13 : decode cJx4a65c_remove_915e3 13 = .ok (.astore_n 2, 1) := by decide +kernel
theorem dJx4a65c_remove_915e3_14 : decode cJx4a65c_remove_915e3 14 = .ok (.aload_n 2, 1) := by decide +kernel
theorem dJx4a65c_remove_915e3_15 : decode cJx4a65c_remove_915e3 15 = .ok (.iload_n 1, 1) := by decide +kernel
theorem dJx4a65c_remove_915e3_16 : decode cJx4a65c_remove_915e3 16 = .ok (.aaload, 1) := by decide +kernel
theorem dJx4a65c_remove_915e3_17 : decode cJx4a65c_remove_915e3 17 = .ok (.astore_n 3, 1) := by decide +kernel
theorem dJx4a65c_remove_915e3_18 : decode cJx4a65c_remove_915e3 18 = .ok (.aload_n 0, 1) := by decide +kernel
theorem dJx4a65c_remove_915e3_19 : decode cJx4a65c_remove_915e3 19 = .ok (.aload_n 2, 1) := by decide +kernel
theorem dJx4a65c_remove_915e3_20 : decode cJx4a65c_remove_915e3 20 = .ok (.iload_n 1, 1) := by decide +kernel
theorem dJx4a65c_remove_915e3_21 : decode cJx4a65c_remove_915e3 21 = .ok (.invokevirtual 144, 3) := by decide +kernel
theorem dJx4a65c_remove_915e3_24 : decode cJx4a65c_remove_915e3 24 = .ok (.aload_n 3, 1) := by decide +kernel
theorem dJx4a65c_remove_915e3_25 : decode cJx4a65c_remove_915e3 25 = .ok (.areturn, 1) := by decide +kernel
theorem dJx4a65c_fastRemove_b59b0_0 : decode cJx4a65c_fastRemove_b59b0 0 = .ok (.aload_n 0, 1) := by decide +kernel
theorem dJx4a65c_fastRemove_b59b0_1 : decode cJx4a65c_fastRemove_b59b0 1 = .ok (.dup, 1) := by decide +kernel
theorem dJx4a65c_fastRemove_b59b0_2 : decode cJx4a65c_fastRemove_b59b0 2 = .ok (.getfield 63, 3) := by decide +kernel
theorem dJx4a65c_fastRemove_b59b0_5 : decode cJx4a65c_fastRemove_b59b0 5 = .ok (.iconst 1, 1) := by decide +kernel
theorem dJx4a65c_fastRemove_b59b0_6 : decode cJx4a65c_fastRemove_b59b0 6 = .ok (.iadd, 1) := by decide +kernel
theorem dJx4a65c_fastRemove_b59b0_7 : decode cJx4a65c_fastRemove_b59b0 7 = .ok (.putfield 63, 3) := by decide +kernel
theorem dJx4a65c_fastRemove_b59b0_10 : decode cJx4a65c_fastRemove_b59b0 10 = .ok (.aload_n 0, 1) := by decide +kernel
theorem dJx4a65c_fastRemove_b59b0_11 : decode cJx4a65c_fastRemove_b59b0 11 = .ok (.getfield 48, 3) := by decide +kernel
theorem dJx4a65c_fastRemove_b59b0_14 : decode cJx4a65c_fastRemove_b59b0 14 = .ok (.iconst 1, 1) := by decide +kernel
theorem dJx4a65c_fastRemove_b59b0_15 : decode cJx4a65c_fastRemove_b59b0 15 = .ok (.isub, 1) := by decide +kernel
theorem dJx4a65c_fastRemove_b59b0_16 : decode cJx4a65c_fastRemove_b59b0 16 = .ok (.dup, 1) := by decide +kernel
theorem dJx4a65c_fastRemove_b59b0_17 : decode cJx4a65c_fastRemove_b59b0 17 = .ok (.istore_n 3, 1) := by decide +kernel
theorem dJx4a65c_fastRemove_b59b0_18 : decode cJx4a65c_fastRemove_b59b0 18 = .ok (.iload_n 2, 1) := by decide +kernel
theorem dJx4a65c_fastRemove_b59b0_19 : decode cJx4a65c_fastRemove_b59b0 19 = .ok (.if_icmp .le 15, 3) := by decide +kernel
theorem dJx4a65c_fastRemove_b59b0_22 : decode cJx4a65c_fastRemove_b59b0 22 = .ok (.aload_n 1, 1) := by decide +kernel
theorem dJx4a65c_fastRemove_b59b0_23 : decode cJx4a65c_fastRemove_b59b0 23 = .ok (.iload_n 2, 1) := by decide +kernel
theorem dJx4a65c_fastRemove_b59b0_24 : decode cJx4a65c_fastRemove_b59b0 24 = .ok (.iconst 1, 1) := by decide +kernel
theorem dJx4a65c_fastRemove_b59b0_25 : decode cJx4a65c_fastRemove_b59b0 25 = .ok (.iadd, 1) := by decide +kernel
theorem dJx4a65c_fastRemove_b59b0_26 : decode cJx4a65c_fastRemove_b59b0 26 = .ok (.aload_n 1, 1) := by decide +kernel
theorem dJx4a65c_fastRemove_b59b0_27 : decode cJx4a65c_fastRemove_b59b0 27 = .ok (.iload_n 2, 1) := by decide +kernel
theorem dJx4a65c_fastRemove_b59b0_28 : decode cJx4a65c_fastRemove_b59b0 28 = .ok (.iload_n 3, 1) := by decide +kernel
theorem dJx4a65c_fastRemove_b59b0_29 : decode cJx4a65c_fastRemove_b59b0 29 = .ok (.iload_n 2, 1) := by decide +kernel
theorem dJx4a65c_fastRemove_b59b0_30 : decode cJx4a65c_fastRemove_b59b0 30 = .ok (.isub, 1) := by decide +kernel
theorem dJx4a65c_fastRemove_b59b0_31 : decode cJx4a65c_fastRemove_b59b0 31 = .ok (.invokestatic 112, 3) := by decide +kernel
theorem dJx4a65c_fastRemove_b59b0_34 : decode cJx4a65c_fastRemove_b59b0 34 = .ok (.aload_n 1, 1) := by decide +kernel
theorem dJx4a65c_fastRemove_b59b0_35 : decode cJx4a65c_fastRemove_b59b0 35 = .ok (.aload_n 0, 1) := by decide +kernel
theorem dJx4a65c_fastRemove_b59b0_36 : decode cJx4a65c_fastRemove_b59b0 36 = .ok (.iload_n 3, 1) := by decide +kernel
theorem dJx4a65c_fastRemove_b59b0_37 : decode cJx4a65c_fastRemove_b59b0 37 = .ok (.dup_x1, 1) := by decide +kernel
theorem dJx4a65c_fastRemove_b59b0_38 : decode cJx4a65c_fastRemove_b59b0 38 = .ok (.putfield 48, 3) := by decide +kernel
theorem dJx4a65c_fastRemove_b59b0_41 : decode cJx4a65c_fastRemove_b59b0 41 = .ok (.aconst_null, 1) := by decide +kernel
theorem dJx4a65c_fastRemove_b59b0_42 : decode cJx4a65c_fastRemove_b59b0 42 = .ok (.aastore, 1) := by decide +kernel
theorem dJx4a65c_fastRemove_b59b0_43 : decode cJx4a65c_fastRemove_b59b0 43 = .ok (.return_, 1) := by decide +kernel
theorem dJx4a65c_clear_da8c8_0 : decode cJx4a65c_clear_da8c8 0 = .ok (.aload_n 0, 1) := by decide +kernel
theorem dJx4a65c_clear_da8c8_1 : decode cJx4a65c_clear_da8c8 1 = .ok (.dup, 1) := by decide +kernel
theorem dJx4a65c_clear_da8c8_2 : decode cJx4a65c_clear_da8c8 2 = .ok (.getfield 63, 3) := by decide +kernel
theorem dJx4a65c_clear_da8c8_5 : decode cJx4a65c_clear_da8c8 5 = .ok (.iconst 1, 1) := by decide +kernel
theorem dJx4a65c_clear_da8c8_6 : decode cJx4a65c_clear_da8c8 6 = .ok (.iadd, 1) := by decide +kernel
theorem dJx4a65c_clear_da8c8_7 : decode cJx4a65c_clear_da8c8 7 = .ok (.putfield 63, 3) := by decide +kernel
theorem dJx4a65c_clear_da8c8_10 : decode cJx4a65c_clear_da8c8 10 = .ok (.aload_n 0, 1) := by decide +kernel
theorem dJx4a65c_clear_da8c8_11 : decode cJx4a65c_clear_da8c8 11 = .ok (.getfield 9, 3) := by decide +kernel
theorem dJx4a65c_clear_da8c8_14 : decode cJx4a65c_clear_da8c8 14 = .ok (.astore_n 1, 1) := by decide +kernel
theorem dJx4a65c_clear_da8c8_15 : decode cJx4a65c_clear_da8c8 15 = .ok (.aload_n 0, 1) := by decide +kernel
theorem dJx4a65c_clear_da8c8_16 : decode cJx4a65c_clear_da8c8 16 = .ok (.getfield 48, 3) := by decide +kernel
theorem dJx4a65c_clear_da8c8_19 : decode cJx4a65c_clear_da8c8 19 = .ok (.istore_n 2, 1) := by decide +kernel
theorem dJx4a65c_clear_da8c8_20 : decode cJx4a65c_clear_da8c8 20 = .ok (.aload_n 0, 1) := by decide +kernel
theorem dJx4a65c_clear_da8c8_21 : decode cJx4a65c_clear_da8c8 21 = .ok (.iconst 0, 1) := by decide +kernel
theorem dJx4a65c_clear_da8c8_22 : decode cJx4a65c_clear_da8c8 22 = .ok (.dup_x1, 1) := by decide +kernel
theorem dJx4a65c_clear_da8c8_23 : decode cJx4a65c_clear_da8c8 23 = .ok (.putfield 48, 3) := by decide +kernel
theorem dJx4a65c_clear_da8c8_26 : decode cJx4a65c_clear_da8c8 26 = .ok (.istore_n 3, 1) := by decide +kernel
theorem dJx4a65c_clear_da8c8_27 : decode cJx4a65c_clear_da8c8 27 = .ok (.iload_n 3, 1) := by decide +kernel
theorem dJx4a65c_clear_da8c8_28 : decode cJx4a65c_clear_da8c8 28 = .ok (.iload_n 2, 1) := by decide +kernel
theorem dJx4a65c_clear_da8c8_29 : decode cJx4a65c_clear_da8c8 29 = .ok (.if_icmp .ge 13, 3) := by decide +kernel
theorem dJx4a65c_clear_da8c8_32 : decode cJx4a65c_clear_da8c8 32 = .ok (.aload_n 1, 1) := by decide +kernel
theorem dJx4a65c_clear_da8c8_33 : decode cJx4a65c_clear_da8c8 33 = .ok (.iload_n 3, 1) := by decide +kernel
theorem dJx4a65c_clear_da8c8_34 : decode cJx4a65c_clear_da8c8 34 = .ok (.aconst_null, 1) := by decide +kernel
theorem dJx4a65c_clear_da8c8_35 : decode cJx4a65c_clear_da8c8 35 = .ok (.aastore, 1) := by decide +kernel
theorem dJx4a65c_clear_da8c8_36 : decode cJx4a65c_clear_da8c8 36 = .ok (.iinc 3 1, 3) := by decide +kernel
theorem dJx4a65c_clear_da8c8_39 : decode cJx4a65c_clear_da8c8 39 = .ok (.goto (-12), 3) := by decide +kernel
theorem dJx4a65c_clear_da8c8_42 : decode cJx4a65c_clear_da8c8 42 = .ok (.return_, 1) := by decide +kernel
theorem dJ7_fill_53178_0 : decode cJ7_fill_53178 0 = .ok (.iconst 0, 1) := by decide +kernel
theorem dJ7_fill_53178_1 : decode cJ7_fill_53178 1 = .ok (.istore_n 2, 1) := by decide +kernel
theorem dJ7_fill_53178_2 : decode cJ7_fill_53178 2 = .ok (.aload_n 0, 1) := by decide +kernel
theorem dJ7_fill_53178_3 : decode cJ7_fill_53178 3 = .ok (.arraylength, 1) := by decide +kernel
theorem dJ7_fill_53178_4 : decode cJ7_fill_53178 4 = .ok (.istore_n 3, 1) := by decide +kernel
theorem dJ7_fill_53178_5 : decode cJ7_fill_53178 5 = .ok (.iload_n 2, 1) := by decide +kernel
theorem dJ7_fill_53178_6 : decode cJ7_fill_53178 6 = .ok (.iload_n 3, 1) := by decide +kernel
theorem dJ7_fill_53178_7 : decode cJ7_fill_53178 7 = .ok (.if_icmp .ge 13, 3) := by decide +kernel
theorem dJ7_fill_53178_10 : decode cJ7_fill_53178 10 = .ok (.aload_n 0, 1) := by decide +kernel
theorem dJ7_fill_53178_11 : decode cJ7_fill_53178 11 = .ok (.iload_n 2, 1) := by decide +kernel
theorem dJ7_fill_53178_12 : decode cJ7_fill_53178 12 = .ok (.iload_n 1, 1) := by decide +kernel
theorem dJ7_fill_53178_13 : decode cJ7_fill_53178 13 = .ok (.iastore, 1) := by decide +kernel
theorem dJ7_fill_53178_14 : decode cJ7_fill_53178 14 = .ok (.iinc 2 1, 3) := by decide +kernel
theorem dJ7_fill_53178_17 : decode cJ7_fill_53178 17 = .ok (.goto (-12), 3) := by decide +kernel
theorem dJ7_fill_53178_20 : decode cJ7_fill_53178 20 = .ok (.return_, 1) := by decide +kernel
theorem dJ7_copyOf_1904c_0 : decode cJ7_copyOf_1904c 0 = .ok (.aload_n 0, 1) := by decide +kernel
theorem dJ7_copyOf_1904c_1 : decode cJ7_copyOf_1904c 1 = .ok (.iload_n 1, 1) := by decide +kernel
theorem dJ7_copyOf_1904c_2 : decode cJ7_copyOf_1904c 2 = .ok (.aload_n 0, 1) := by decide +kernel
theorem dJ7_copyOf_1904c_3 : decode cJ7_copyOf_1904c 3 = .ok (.invokevirtual 86, 3) := by decide +kernel
theorem dJ7_copyOf_1904c_6 : decode cJ7_copyOf_1904c 6 = .ok (.invokestatic 300, 3) := by decide +kernel
theorem dJ7_copyOf_1904c_9 : decode cJ7_copyOf_1904c 9 = .ok (.areturn, 1) := by decide +kernel
theorem dJ7_copyOf_6403c_0 : decode cJ7_copyOf_6403c 0 = .ok (.aload_n 2, 1) := by decide +kernel
theorem dJ7_copyOf_6403c_1 : decode cJ7_copyOf_6403c 1 = .ok (.ldc 110, 2) := by decide +kernel
theorem dJ7_copyOf_6403c_3 : decode cJ7_copyOf_6403c 3 = .ok (.if_acmp .ne 10, 3) := by decide +kernel
theorem dJ7_copyOf_6403c_6 : decode cJ7_copyOf_6403c 6 = .ok (.iload_n 1, 1) := by decide +kernel
theorem dJ7_copyOf_6403c_7 : decode cJ7_copyOf_6403c 7 = .ok (.anewarray 2, 3) := by decide +kernel
theorem dJ7_copyOf_6403c_10 : decode cJ7_copyOf_6403c 10 = .ok (.goto 14, 3) := by decide +kernel
theorem dJ7_copyOf_6403c_13 : decode cJ7_copyOf_6403c 13 = .ok (.aload_n 2, 1) := by decide +kernel
theorem dJ7_copyOf_6403c_14 : decode cJ7_copyOf_6403c 14 = .ok (.invokevirtual 90, 3) := by decide +kernel
theorem dJ7_copyOf_6403c_17 : decode cJ7_copyOf_6403c 17 = .ok (.iload_n 1, 1) := by decide +kernel
theorem dJ7_copyOf_6403c_18 : decode cJ7_copyOf_6403c 18 = .ok (.invokestatic 95, 3) := by decide +kernel
theorem dJ7_copyOf_6403c_21 : decode cJ7_copyOf_6403c 21 = .ok (.checkcast 110, 3) := by decide +kernel
theorem dJ7_copyOf_6403c_24 : decode cJ7_copyOf_6403c 24 = .ok (.astore_n 3, 1) := by decide +kernel
theorem dJ7_copyOf_6403c_25 : decode cJ7_copyOf_6403c 25 = .ok (.aload_n 0, 1) := by decide +kernel
theorem dJ7_copyOf_6403c_26 : decode cJ7_copyOf_6403c 26 = .ok (.iconst 0, 1) := by decide +kernel
theorem dJ7_copyOf_6403c_27 : decode cJ7_copyOf_6403c 27 = .ok (.aload_n 3, 1) := by decide +kernel
theorem dJ7_copyOf_6403c_28 : decode cJ7_copyOf_6403c 28 = .ok (.iconst 0, 1) := by decide +kernel
theorem dJ7_copyOf_6403c_29 : decode cJ7_copyOf_6403c 29 = .ok (.aload_n 0, 1) := by decide +kernel
theorem dJ7_copyOf_6403c_30 : decode cJ7_copyOf_6403c 30 = .ok (.arraylength, 1) := by decide +kernel
theorem dJ7_copyOf_6403c_31 : decode cJ7_copyOf_6403c 31 = .ok (.iload_n 1, 1) := by decide +kernel
theorem dJ7_copyOf_6403c_32 : decode cJ7_copyOf_6403c 32 = .ok (.invokestatic 304, 3) := by decide +kernel
theorem dJ7_copyOf_6403c_35 : decode cJ7_copyOf_6403c 35 = .ok (.invokestatic 150, 3) := by decide +kernel
theorem dJ7_copyOf_6403c_38 : decode cJ7_copyOf_6403c 38 = .ok (.aload_n 3, 1) := by decide +kernel
theorem dJ7_copyOf_6403c_39 : decode cJ7_copyOf_6403c 39 = .ok (.areturn, 1) := by decide +kernel
theorem dJ15_checkIndex_7cf53_0 : decode cJ15_checkIndex_7cf53 0 = .ok (.iload_n 0, 1) := by decide +kernel
theorem dJ15_checkIndex_7cf53_1 : decode cJ15_checkIndex_7cf53 1 = .ok (.iload_n 1, 1) := by decide +kernel
theorem dJ15_checkIndex_7cf53_2 : decode cJ15_checkIndex_7cf53 2 = .ok (.aconst_null, 1) := by decide +kernel
theorem dJ15_checkIndex_7cf53_3 : decode cJ15_checkIndex_7cf53 3 = .ok (.invokestatic 105, 3) := by decide +kernel
theorem dJ15_checkIndex_7cf53_6 : decode cJ15_checkIndex_7cf53 6 = .ok (.ireturn, 1) := by decide +kernel
theorem dJ8_newLength_cabcc_0 : decode cJ8_newLength_cabcc 0 = .ok (.iload_n 0, 1) := by decide +kernel
theorem dJ8_newLength_cabcc_1 : decode cJ8_newLength_cabcc 1 = .ok (.iload_n 1, 1) := by decide +kernel
theorem dJ8_newLength_cabcc_2 : decode cJ8_newLength_cabcc 2 = .ok (.iload_n 2, 1) := by decide +kernel
theorem dJ8_newLength_cabcc_3 : decode cJ8_newLength_cabcc 3 = .ok (.invokestatic 194, 3) := by decide +kernel
theorem dJ8_newLength_cabcc_6 : decode cJ8_newLength_cabcc 6 = .ok (.iadd, 1) := by decide +kernel
theorem dJ8_newLength_cabcc_7 : decode cJ8_newLength_cabcc 7 = .ok (.istore_n 3, 1) := by decide +kernel
theorem dJ8_newLength_cabcc_8 : decode cJ8_newLength_cabcc 8 = .ok (.iconst 0, 1) := by decide +kernel
theorem dJ8_newLength_cabcc_9 : decode cJ8_newLength_cabcc 9 = .ok (.iload_n 3, 1) := by decide +kernel
theorem dJ8_newLength_cabcc_10 : decode cJ8_newLength_cabcc 10 = .ok (.if_icmp .ge 11, 3) := by decide +kernel
theorem dJ8_newLength_cabcc_13 : decode cJ8_newLength_cabcc 13 = .ok (.iload_n 3, 1) := by decide +kernel
theorem dJ8_newLength_cabcc_14 : decode cJ8_newLength_cabcc 14 = .ok (.ldc 200, 2) := by decide +kernel
theorem dJ8_newLength_cabcc_16 : decode cJ8_newLength_cabcc 16 = .ok (.if_icmp .gt 5, 3) := by decide +kernel
theorem dJ8_newLength_cabcc_19 : decode cJ8_newLength_cabcc 19 = .ok (.iload_n 3, 1) := by decide +kernel
theorem dJ8_newLength_cabcc_20 : decode cJ8_newLength_cabcc 20 = .ok (.ireturn, 1) := by decide +kernel
theorem dJ8_newLength_cabcc_21 : decode cJ8_newLength_cabcc 21 = .ok (.iload_n 0, 1) := by decide +kernel
theorem dJ8_newLength_cabcc_22 : decode cJ8_newLength_cabcc 22 = .ok (.iload_n 1, 1) := by decide +kernel
theorem dJ8_newLength_cabcc_23 : decode cJ8_newLength_cabcc 23 = .ok (.invokestatic 201, 3) := by decide +kernel
theorem dJ8_newLength_cabcc_26 : decode cJ8_newLength_cabcc 26 = .ok (.ireturn, 1) := by decide +kernel
theorem dJ8_hugeLength_7cf53_0 : decode cJ8_hugeLength_7cf53 0 = .ok (.iload_n 0, 1) := by decide +kernel
theorem dJ8_hugeLength_7cf53_1 : decode cJ8_hugeLength_7cf53 1 = .ok (.iload_n 1, 1) := by decide +kernel
theorem dJ8_hugeLength_7cf53_2 : decode cJ8_hugeLength_7cf53 2 = .ok (.iadd, 1) := by decide +kernel
theorem dJ8_hugeLength_7cf53_3 : decode cJ8_hugeLength_7cf53 3 = .ok (.istore_n 2, 1) := by decide +kernel
theorem dJ8_hugeLength_7cf53_4 : decode cJ8_hugeLength_7cf53 4 = .ok (.iload_n 2, 1) := by decide +kernel
theorem dJ8_hugeLength_7cf53_5 : decode cJ8_hugeLength_7cf53 5 = .ok (.ifCond .ge 44, 3) := by decide +kernel
theorem dJ8_hugeLength_7cf53_8 : decode cJ8_hugeLength_7cf53 8 = .ok (.new 204, 3) := by decide +kernel
theorem dJ8_hugeLength_7cf53_11 : decode cJ8_hugeLength_7cf53 11 = .ok (.dup, 1) := by decide +kernel
theorem dJ8_hugeLength_7cf53_12 : decode cJ8_hugeLength_7cf53 12 = .ok (.new 89, 3) := by decide +kernel
theorem dJ8_hugeLength_7cf53_15 : decode cJ8_hugeLength_7cf53 15 = .ok (.dup, 1) := by decide +kernel
theorem dJ8_hugeLength_7cf53_16 : decode cJ8_hugeLength_7cf53 16 = .ok (.invokespecial 91, 3) := by decide +kernel
theorem dJ8_hugeLength_7cf53_19 : decode cJ8_hugeLength_7cf53 19 = .ok (.ldc 206, 2) := by decide +kernel
theorem dJ8_hugeLength_7cf53_21 : decode cJ8_hugeLength_7cf53 21 = .ok (.invokevirtual 94, 3) := by decide +kernel
theorem dJ8_hugeLength_7cf53_24 : decode cJ8_hugeLength_7cf53 24 = .ok (.iload_n 0, 1) := by decide +kernel
theorem dJ8_hugeLength_7cf53_25 : decode cJ8_hugeLength_7cf53 25 = .ok (.invokevirtual 98, 3) := by decide +kernel
theorem dJ8_hugeLength_7cf53_28 : decode cJ8_hugeLength_7cf53 28 = .ok (.ldc 208, 2) := by decide +kernel
theorem dJ8_hugeLength_7cf53_30 : decode cJ8_hugeLength_7cf53 30 = .ok (.invokevirtual 94, 3) := by decide +kernel
theorem dJ8_hugeLength_7cf53_33 : decode cJ8_hugeLength_7cf53 33 = .ok (.iload_n 1, 1) := by decide +kernel
theorem dJ8_hugeLength_7cf53_34 : decode cJ8_hugeLength_7cf53 34 = .ok (.invokevirtual 98, 3) := by decide +kernel
theorem dJ8_hugeLength_7cf53_37 : decode cJ8_hugeLength_7cf53 37 = .ok (.ldc 210, 2) := by decide +kernel
theorem dJ8_hugeLength_7cf53_39 : decode cJ8_hugeLength_7cf53 39 = .ok (.invokevirtual 94, 3) := by decide +kernel
theorem dJ8_hugeLength_7cf53_42 : decode cJ8_hugeLength_7cf53 42 = .ok (.invokevirtual 101, 3) := by decide +kernel
theorem dJ8_hugeLength_7cf53_45 : decode cJ8_hugeLength_7cf53 45 = .ok (.invokespecial 212, 3) := by decide +kernel
theorem dJ8_hugeLength_7cf53_48 : decode cJ8_hugeLength_7cf53 48 = .ok (.athrow, 1) := by decide +kernel
theorem dJ8_hugeLength_7cf53_49 : decode cJ8_hugeLength_7cf53 49 = .ok (.iload_n 2, 1) := by decide +kernel
theorem dJ8_hugeLength_7cf53_50 : decode cJ8_hugeLength_7cf53 50 = .ok (.ldc 200, 2) := by decide +kernel
theorem dJ8_hugeLength_7cf53_52 : decode cJ8_hugeLength_7cf53 52 = .ok (.if_icmp .gt 6, 3) := by decide +kernel
theorem dJ8_hugeLength_7cf53_55 : decode cJ8_hugeLength_7cf53 55 = .ok (.ldc 200, 2) := by decide +kernel
theorem dJ8_hugeLength_7cf53_57 : decode cJ8_hugeLength_7cf53 57 = .ok (.ireturn, 1) := by decide +kernel
theorem dJ8_hugeLength_7cf53_58 : decode cJ8_hugeLength_7cf53 58 = .ok (.iload_n 2, 1) := by decide +kernel
theorem dJ8_hugeLength_7cf53_59 : decode cJ8_hugeLength_7cf53 59 = .ok (.ireturn, 1) := by decide +kernel
theorem dJ3_checkIndex_8e157_0 : decode cJ3_checkIndex_8e157 0 = .ok (.iload_n 0, 1) := by decide +kernel
theorem dJ3_checkIndex_8e157_1 : decode cJ3_checkIndex_8e157 1 = .ok (.ifCond .lt 8, 3) := by decide +kernel
theorem dJ3_checkIndex_8e157_4 : decode cJ3_checkIndex_8e157 4 = .ok (.iload_n 0, 1) := by decide +kernel
theorem dJ3_checkIndex_8e157_5 : decode cJ3_checkIndex_8e157 5 = .ok (.iload_n 1, 1) := by decide +kernel
theorem dJ3_checkIndex_8e157_6 : decode cJ3_checkIndex_8e157 6 = .ok (.if_icmp .lt 10, 3) := by decide +kernel
theorem dJ3_checkIndex_8e157_9 : decode cJ3_checkIndex_8e157 9 = .ok (.aload_n 2, 1) := by decide +kernel
theorem dJ3_checkIndex_8e157_10 : decode cJ3_checkIndex_8e157 10 = .ok (.iload_n 0, 1) := by decide +kernel
theorem dJ3_checkIndex_8e157_11 : decode cJ3_checkIndex_8e157 11 = .ok (.iload_n 1, 1) := by decide +kernel
theorem dJ3_checkIndex_8e157_12 : decode cJ3_checkIndex_8e157 12 = .ok (.invokestatic 95, 3) := by decide +kernel
theorem dJ3_checkIndex_8e157_15 : decode cJ3_checkIndex_8e157 15 = .ok (.athrow, 1) := by decide +kernel
theorem dJ3_checkIndex_8e157_16 : decode cJ3_checkIndex_8e157 16 = .ok (.iload_n 0, 1) := by decide +kernel
theorem dJ3_checkIndex_8e157_17 : decode cJ3_checkIndex_8e157 17 = .ok (.ireturn, 1) := by decide +kernel
theorem dL_cell_0 : decode cL_cell 0 = .ok (.iload_n 1, 1) := by decide +kernel
theorem dL_cell_1 : decode cL_cell 1 = .ok (.aload_n 0, 1) := by decide +kernel
theorem dL_cell_2 : decode cL_cell 2 = .ok (.arraylength, 1) := by decide +kernel
theorem dL_cell_3 : decode cL_cell 3 = .ok (.if_icmp .ge 9, 3) := by decide +kernel
theorem dL_cell_6 : decode cL_cell 6 = .ok (.aload_n 0, 1) := by decide +kernel
theorem dL_cell_7 : decode cL_cell 7 = .ok (.iload_n 1, 1) := by decide +kernel
theorem dL_cell_8 : decode cL_cell 8 = .ok (.iaload, 1) := by decide +kernel
theorem dL_cell_9 : decode cL_cell 9 = .ok (.goto 10, 3) := by decide +kernel
theorem dL_cell_12 : decode cL_cell 12 = .ok (.ldc 7, 2) := by decide +kernel
theorem dL_cell_14 : decode cL_cell 14 = .ok (.iload_n 1, 1) := by decide +kernel
theorem dL_cell_15 : decode cL_cell 15 = .ok (.imul, 1) := by decide +kernel
theorem dL_cell_16 : decode cL_cell 16 = .ok (.bipush 77, 2) := by decide +kernel
theorem dL_cell_18 : decode cL_cell 18 = .ok (.iadd, 1) := by decide +kernel
theorem dL_cell_19 : decode cL_cell 19 = .ok (.ireturn, 1) := by decide +kernel
theorem dL_low_0 : decode cL_low 0 = .ok (.iload_n 0, 1) := by decide +kernel
theorem dL_low_1 : decode cL_low 1 = .ok (.ldc 8, 2) := by decide +kernel
theorem dL_low_3 : decode cL_low 3 = .ok (.iand, 1) := by decide +kernel
theorem dL_low_4 : decode cL_low 4 = .ok (.iload_n 1, 1) := by decide +kernel
theorem dL_low_5 : decode cL_low 5 = .ok (.irem, 1) := by decide +kernel
theorem dL_low_6 : decode cL_low 6 = .ok (.ireturn, 1) := by decide +kernel
theorem dL_best_0 : decode cL_best 0 = .ok (.aload_n 0, 1) := by decide +kernel
theorem dL_best_1 : decode cL_best 1 = .ok (.iload_n 1, 1) := by decide +kernel
theorem dL_best_2 : decode cL_best 2 = .ok (.iload_n 2, 1) := by decide +kernel
theorem dL_best_3 : decode cL_best 3 = .ok (.invokevirtual 9, 3) := by decide +kernel
theorem dL_best_6 : decode cL_best 6 = .ok (.ireturn, 1) := by decide +kernel
theorem dL_best_7 : decode cL_best 7 = .ok (.astore_n 3, 1) := by decide +kernel
theorem dL_best_8 : decode cL_best 8 = .ok (.iconst (-1), 1) := by decide +kernel
theorem dL_best_9 : decode cL_best 9 = .ok (.ireturn, 1) := by decide +kernel
theorem dL_enroll_0 : decode cL_enroll 0 = .ok (.aload_n 0, 1) := by decide +kernel
theorem dL_enroll_1 : decode cL_enroll 1 = .ok (.iload_n 1, 1) := by decide +kernel
theorem dL_enroll_2 : decode cL_enroll 2 = .ok (.iload_n 2, 1) := by decide +kernel
theorem dL_enroll_3 : decode cL_enroll 3 = .ok (.invokevirtual 17, 3) := by decide +kernel
theorem dL_enroll_6 : decode cL_enroll 6 = .ok (.ireturn, 1) := by decide +kernel
theorem dL_enroll_7 : decode cL_enroll 7 = .ok (.astore_n 3, 1) := by decide +kernel
theorem dL_enroll_8 : decode cL_enroll 8 = .ok (.bipush 63, 2) := by decide +kernel
theorem dL_enroll_10 : decode cL_enroll 10 = .ok (.ireturn, 1) := by decide +kernel
theorem dL_enroll_11 : decode cL_enroll 11 = .ok (.astore_n 3, 1) := by decide +kernel
theorem dL_enroll_12 : decode cL_enroll 12 = .ok (.bipush 100, 2) := by decide +kernel
theorem dL_enroll_14 : decode cL_enroll 14 = .ok (.ireturn, 1) := by decide +kernel
theorem dL_enroll_15 : decode cL_enroll 15 = .ok (.astore_n 3, 1) := by decide +kernel
theorem dL_enroll_16 : decode cL_enroll 16 = .ok (.bipush 105, 2) := by decide +kernel
theorem dL_enroll_18 : decode cL_enroll 18 = .ok (.ireturn, 1) := by decide +kernel
theorem dL_enroll_19 : decode cL_enroll 19 = .ok (.astore_n 3, 1) := by decide +kernel
theorem dL_enroll_20 : decode cL_enroll 20 = .ok (.bipush 114, 2) := by decide +kernel
theorem dL_enroll_22 : decode cL_enroll 22 = .ok (.ireturn, 1) := by decide +kernel
theorem dL_enroll_23 : decode cL_enroll 23 = .ok (.astore_n 3, 1) := by decide +kernel
theorem dL_enroll_24 : decode cL_enroll 24 = .ok (.bipush 99, 2) := by decide +kernel
theorem dL_enroll_26 : decode cL_enroll 26 = .ok (.ireturn, 1) := by decide +kernel
theorem dL_enroll_27 : decode cL_enroll 27 = .ok (.astore_n 3, 1) := by decide +kernel
theorem dL_enroll_28 : decode cL_enroll 28 = .ok (.bipush 102, 2) := by decide +kernel
theorem dL_enroll_30 : decode cL_enroll 30 = .ok (.ireturn, 1) := by decide +kernel
theorem dL_moveIn_0 : decode cL_moveIn 0 = .ok (.aload_n 0, 1) := by decide +kernel
theorem dL_moveIn_1 : decode cL_moveIn 1 = .ok (.iload_n 1, 1) := by decide +kernel
theorem dL_moveIn_2 : decode cL_moveIn 2 = .ok (.iload_n 2, 1) := by decide +kernel
theorem dL_moveIn_3 : decode cL_moveIn 3 = .ok (.invokevirtual 31, 3) := by decide +kernel
theorem dL_moveIn_6 : decode cL_moveIn 6 = .ok (.ireturn, 1) := by decide +kernel
theorem dL_moveIn_7 : decode cL_moveIn 7 = .ok (.astore_n 3, 1) := by decide +kernel
theorem dL_moveIn_8 : decode cL_moveIn 8 = .ok (.iconst (-1), 1) := by decide +kernel
theorem dL_moveIn_9 : decode cL_moveIn 9 = .ok (.ireturn, 1) := by decide +kernel
theorem dL_moveIn_10 : decode cL_moveIn 10 = .ok (.astore_n 3, 1) := by decide +kernel
theorem dL_moveIn_11 : decode cL_moveIn 11 = .ok (.bipush (-2), 2) := by decide +kernel
theorem dL_moveIn_13 : decode cL_moveIn 13 = .ok (.ireturn, 1) := by decide +kernel
theorem dL_moveIn_14 : decode cL_moveIn 14 = .ok (.astore_n 3, 1) := by decide +kernel
theorem dL_moveIn_15 : decode cL_moveIn 15 = .ok (.bipush (-3), 2) := by decide +kernel
theorem dL_moveIn_17 : decode cL_moveIn 17 = .ok (.ireturn, 1) := by decide +kernel
theorem dL_place_0 : decode cL_place 0 = .ok (.aload_n 0, 1) := by decide +kernel
theorem dL_place_1 : decode cL_place 1 = .ok (.iload_n 1, 1) := by decide +kernel
theorem dL_place_2 : decode cL_place 2 = .ok (.iload_n 2, 1) := by decide +kernel
theorem dL_place_3 : decode cL_place 3 = .ok (.invokevirtual 34, 3) := by decide +kernel
theorem dL_place_6 : decode cL_place 6 = .ok (.ireturn, 1) := by decide +kernel
theorem dL_place_7 : decode cL_place 7 = .ok (.astore_n 3, 1) := by decide +kernel
theorem dL_place_8 : decode cL_place 8 = .ok (.iconst (-1), 1) := by decide +kernel
theorem dL_place_9 : decode cL_place 9 = .ok (.ireturn, 1) := by decide +kernel
theorem dL_office_0 : decode cL_office 0 = .ok (.new 37, 3) := by decide +kernel
theorem dL_office_3 : decode cL_office 3 = .ok (.dup, 1) := by decide +kernel
theorem dL_office_4 : decode cL_office 4 = .ok (.invokespecial 39, 3) := by decide +kernel
theorem dL_office_7 : decode cL_office 7 = .ok (.astore_n 2, 1) := by decide +kernel
theorem dL_office_8 : decode cL_office 8 = .ok (.iconst 1, 1) := by decide +kernel
theorem dL_office_9 : decode cL_office 9 = .ok (.istore_n 3, 1) := by decide +kernel
theorem dL_office_10 : decode cL_office 10 = .ok (.iconst 0, 1) := by decide +kernel
theorem dL_office_11 : decode cL_office 11 = .ok (.istore 4, 2) := by decide +kernel
theorem dL_office_13 : decode cL_office 13 = .ok (.iload 4, 2) := by decide +kernel
theorem dL_office_15 : decode cL_office 15 = .ok (.iconst 5, 1) := by decide +kernel
theorem dL_office_16 : decode cL_office 16 = .ok (.if_icmp .ge 89, 3) := by decide +kernel
theorem dL_office_19 : decode cL_office 19 = .ok (.aload_n 2, 1) := by decide +kernel
theorem dL_office_20 : decode cL_office 20 = .ok (.getfield 40, 3) := by decide +kernel
theorem dL_office_23 : decode cL_office 23 = .ok (.iload 4, 2) := by decide +kernel
theorem dL_office_25 : decode cL_office 25 = .ok (.iconst 1, 1) := by decide +kernel
theorem dL_office_26 : decode cL_office 26 = .ok (.aload_n 1, 1) := by decide +kernel
theorem dL_office_27 : decode cL_office 27 = .ok (.iconst 0, 1) := by decide +kernel
theorem dL_office_28 : decode cL_office 28 = .ok (.invokestatic 44, 3) := by decide +kernel
theorem dL_office_31 : decode cL_office 31 = .ok (.iconst 3, 1) := by decide +kernel
theorem dL_office_32 : decode cL_office 32 = .ok (.iload 4, 2) := by decide +kernel
theorem dL_office_34 : decode cL_office 34 = .ok (.imul, 1) := by decide +kernel
theorem dL_office_35 : decode cL_office 35 = .ok (.ishr, 1) := by decide +kernel
theorem dL_office_36 : decode cL_office 36 = .ok (.bipush 6, 2) := by decide +kernel
theorem dL_office_38 : decode cL_office 38 = .ok (.invokestatic 50, 3) := by decide +kernel
theorem dL_office_41 : decode cL_office 41 = .ok (.iadd, 1) := by decide +kernel
theorem dL_office_42 : decode cL_office 42 = .ok (.iastore, 1) := by decide +kernel
theorem dL_office_43 : decode cL_office 43 = .ok (.aload_n 2, 1) := by decide +kernel
theorem dL_office_44 : decode cL_office 44 = .ok (.getfield 53, 3) := by decide +kernel
theorem dL_office_47 : decode cL_office 47 = .ok (.iload 4, 2) := by decide +kernel
theorem dL_office_49 : decode cL_office 49 = .ok (.iconst 1, 1) := by decide +kernel
theorem dL_office_50 : decode cL_office 50 = .ok (.aload_n 1, 1) := by decide +kernel
theorem dL_office_51 : decode cL_office 51 = .ok (.iconst 1, 1) := by decide +kernel
theorem dL_office_52 : decode cL_office 52 = .ok (.invokestatic 44, 3) := by decide +kernel
theorem dL_office_55 : decode cL_office 55 = .ok (.iconst 2, 1) := by decide +kernel
theorem dL_office_56 : decode cL_office 56 = .ok (.iload 4, 2) := by decide +kernel
theorem dL_office_58 : decode cL_office 58 = .ok (.imul, 1) := by decide +kernel
theorem dL_office_59 : decode cL_office 59 = .ok (.ishr, 1) := by decide +kernel
theorem dL_office_60 : decode cL_office 60 = .ok (.iconst 3, 1) := by decide +kernel
theorem dL_office_61 : decode cL_office 61 = .ok (.invokestatic 50, 3) := by decide +kernel
theorem dL_office_64 : decode cL_office 64 = .ok (.iadd, 1) := by decide +kernel
theorem dL_office_65 : decode cL_office 65 = .ok (.iastore, 1) := by decide +kernel
theorem dL_office_66 : decode cL_office 66 = .ok (.iload_n 3, 1) := by decide +kernel
theorem dL_office_67 : decode cL_office 67 = .ok (.ifCond .eq 30, 3) := by decide +kernel
theorem dL_office_70 : decode cL_office 70 = .ok (.aload_n 0, 1) := by decide +kernel
theorem dL_office_71 : decode cL_office 71 = .ok (.aload_n 2, 1) := by decide +kernel
theorem dL_office_72 : decode cL_office 72 = .ok (.getfield 40, 3) := by decide +kernel
theorem dL_office_75 : decode cL_office 75 = .ok (.iload 4, 2) := by decide +kernel
theorem dL_office_77 : decode cL_office 77 = .ok (.iaload, 1) := by decide +kernel
theorem dL_office_78 : decode cL_office 78 = .ok (.aload_n 2, 1) := by decide +kernel
theorem dL_office_79 : decode cL_office 79 = .ok (.getfield 53, 3) := by decide +kernel
theorem dL_office_82 : decode cL_office 82 = .ok (.iload 4, 2) := by decide +kernel
theorem dL_office_84 : decode cL_office 84 = .ok (.iaload, 1) := by decide +kernel
theorem dL_office_85 : decode cL_office 85 = .ok (.invokevirtual 56, 3) := by decide +kernel
theorem dL_office_88 : decode cL_office 88 = .ok (.iload 4, 2) := by decide +kernel
theorem dL_office_90 : decode cL_office 90 = .ok (.if_icmp .ne 7, 3) := by decide +kernel
theorem dL_office_93 : decode cL_office 93 = .ok (.iconst 1, 1) := by decide +kernel
theorem dL_office_94 : decode cL_office 94 = .ok (.goto 4, 3) := by decide +kernel
theorem dL_office_97 : decode cL_office 97 = .ok (.iconst 0, 1) := by decide +kernel
theorem dL_office_98 : decode cL_office 98 = .ok (.istore_n 3, 1) := by decide +kernel
theorem dL_office_99 : decode cL_office 99 = .ok (.iinc 4 1, 3) := by decide +kernel
theorem dL_office_102 : decode cL_office 102 = .ok (.goto (-89), 3) := by decide +kernel
theorem dL_office_105 : decode cL_office 105 = .ok (.iconst 0, 1) := by decide +kernel
theorem dL_office_106 : decode cL_office 106 = .ok (.istore 4, 2) := by decide +kernel
theorem dL_office_108 : decode cL_office 108 = .ok (.iload 4, 2) := by decide +kernel
theorem dL_office_110 : decode cL_office 110 = .ok (.iconst 5, 1) := by decide +kernel
theorem dL_office_111 : decode cL_office 111 = .ok (.if_icmp .ge 56, 3) := by decide +kernel
theorem dL_office_114 : decode cL_office 114 = .ok (.aload_n 2, 1) := by decide +kernel
theorem dL_office_115 : decode cL_office 115 = .ok (.getfield 59, 3) := by decide +kernel
theorem dL_office_118 : decode cL_office 118 = .ok (.iload 4, 2) := by decide +kernel
theorem dL_office_120 : decode cL_office 120 = .ok (.aload_n 1, 1) := by decide +kernel
theorem dL_office_121 : decode cL_office 121 = .ok (.iconst 2, 1) := by decide +kernel
theorem dL_office_122 : decode cL_office 122 = .ok (.invokestatic 44, 3) := by decide +kernel
theorem dL_office_125 : decode cL_office 125 = .ok (.iconst 2, 1) := by decide +kernel
theorem dL_office_126 : decode cL_office 126 = .ok (.iload 4, 2) := by decide +kernel
theorem dL_office_128 : decode cL_office 128 = .ok (.imul, 1) := by decide +kernel
theorem dL_office_129 : decode cL_office 129 = .ok (.ishr, 1) := by decide +kernel
theorem dL_office_130 : decode cL_office 130 = .ok (.iconst 4, 1) := by decide +kernel
theorem dL_office_131 : decode cL_office 131 = .ok (.invokestatic 50, 3) := by decide +kernel
theorem dL_office_134 : decode cL_office 134 = .ok (.iastore, 1) := by decide +kernel
theorem dL_office_135 : decode cL_office 135 = .ok (.iload_n 3, 1) := by decide +kernel
theorem dL_office_136 : decode cL_office 136 = .ok (.ifCond .eq 23, 3) := by decide +kernel
theorem dL_office_139 : decode cL_office 139 = .ok (.aload_n 0, 1) := by decide +kernel
theorem dL_office_140 : decode cL_office 140 = .ok (.aload_n 2, 1) := by decide +kernel
theorem dL_office_141 : decode cL_office 141 = .ok (.getfield 59, 3) := by decide +kernel
theorem dL_office_144 : decode cL_office 144 = .ok (.iload 4, 2) := by decide +kernel
theorem dL_office_146 : decode cL_office 146 = .ok (.iaload, 1) := by decide +kernel
theorem dL_office_147 : decode cL_office 147 = .ok (.invokevirtual 62, 3) := by decide +kernel
theorem dL_office_150 : decode cL_office 150 = .ok (.iload 4, 2) := by decide +kernel
theorem dL_office_152 : decode cL_office 152 = .ok (.if_icmp .ne 7, 3) := by decide +kernel
theorem dL_office_155 : decode cL_office 155 = .ok (.iconst 1, 1) := by decide +kernel
theorem dL_office_156 : decode cL_office 156 = .ok (.goto 4, 3) := by decide +kernel
theorem dL_office_159 : decode cL_office 159 = .ok (.iconst 0, 1) := by decide +kernel
theorem dL_office_160 : decode cL_office 160 = .ok (.istore_n 3, 1) := by decide +kernel
theorem dL_office_161 : decode cL_office 161 = .ok (.iinc 4 1, 3) := by decide +kernel
theorem dL_office_164 : decode cL_office 164 = .ok (.goto (-56), 3) := by decide +kernel
theorem dL_office_167 : decode cL_office 167 = .ok (.iconst 0, 1) := by decide +kernel
theorem dL_office_168 : decode cL_office 168 = .ok (.istore 4, 2) := by decide +kernel
theorem dL_office_170 : decode cL_office 170 = .ok (.iload 4, 2) := by decide +kernel
theorem dL_office_172 : decode cL_office 172 = .ok (.bipush 12, 2) := by decide +kernel
theorem dL_office_174 : decode cL_office 174 = .ok (.if_icmp .ge 233, 3) := by decide +kernel
theorem dL_office_177 : decode cL_office 177 = .ok (.iload_n 3, 1) := by decide +kernel
theorem dL_office_178 : decode cL_office 178 = .ok (.ifCond .eq 229, 3) := by decide +kernel
theorem dL_office_181 : decode cL_office 181 = .ok (.aload_n 1, 1) := by decide +kernel
theorem dL_office_182 : decode cL_office 182 = .ok (.iconst 3, 1) := by decide +kernel
theorem dL_office_183 : decode cL_office 183 = .ok (.iload 4, 2) := by decide +kernel
theorem dL_office_185 : decode cL_office 185 = .ok (.iadd, 1) := by decide +kernel
theorem dL_office_186 : decode cL_office 186 = .ok (.invokestatic 44, 3) := by decide +kernel
theorem dL_office_189 : decode cL_office 189 = .ok (.istore 5, 2) := by decide +kernel
theorem dL_office_191 : decode cL_office 191 = .ok (.aload_n 2, 1) := by decide +kernel
theorem dL_office_192 : decode cL_office 192 = .ok (.getfield 66, 3) := by decide +kernel
theorem dL_office_195 : decode cL_office 195 = .ok (.iload 4, 2) := by decide +kernel
theorem dL_office_197 : decode cL_office 197 = .ok (.iload 4, 2) := by decide +kernel
theorem dL_office_199 : decode cL_office 199 = .ok (.iconst 4, 1) := by decide +kernel
theorem dL_office_200 : decode cL_office 200 = .ok (.if_icmp .ge 12, 3) := by decide +kernel
theorem dL_office_203 : decode cL_office 203 = .ok (.iload 5, 2) := by decide +kernel
theorem dL_office_205 : decode cL_office 205 = .ok (.iconst 3, 1) := by decide +kernel
theorem dL_office_206 : decode cL_office 206 = .ok (.invokestatic 50, 3) := by decide +kernel
theorem dL_office_209 : decode cL_office 209 = .ok (.goto 10, 3) := by decide +kernel
theorem dL_office_212 : decode cL_office 212 = .ok (.iload 5, 2) := by decide +kernel
theorem dL_office_214 : decode cL_office 214 = .ok (.bipush 7, 2) := by decide +kernel
theorem dL_office_216 : decode cL_office 216 = .ok (.invokestatic 50, 3) := by decide +kernel
theorem dL_office_219 : decode cL_office 219 = .ok (.iastore, 1) := by decide +kernel
theorem dL_office_220 : decode cL_office 220 = .ok (.aload_n 2, 1) := by decide +kernel
theorem dL_office_221 : decode cL_office 221 = .ok (.getfield 69, 3) := by decide +kernel
theorem dL_office_224 : decode cL_office 224 = .ok (.iload 4, 2) := by decide +kernel
theorem dL_office_226 : decode cL_office 226 = .ok (.aload_n 2, 1) := by decide +kernel
theorem dL_office_227 : decode cL_office 227 = .ok (.getfield 66, 3) := by decide +kernel
theorem dL_office_230 : decode cL_office 230 = .ok (.iload 4, 2) := by decide +kernel
theorem dL_office_232 : decode cL_office 232 = .ok (.iaload, 1) := by decide +kernel
theorem dL_office_233 : decode cL_office 233 = .ok (.iconst 2, 1) := by decide +kernel
theorem dL_office_234 : decode cL_office 234 = .ok (.if_icmp .ne 15, 3) := by decide +kernel
theorem dL_office_237 : decode cL_office 237 = .ok (.iload 5, 2) := by decide +kernel
theorem dL_office_239 : decode cL_office 239 = .ok (.iconst 3, 1) := by decide +kernel
theorem dL_office_240 : decode cL_office 240 = .ok (.ishr, 1) := by decide +kernel
theorem dL_office_241 : decode cL_office 241 = .ok (.bipush 9, 2) := by decide +kernel
theorem dL_office_243 : decode cL_office 243 = .ok (.invokestatic 50, 3) := by decide +kernel
theorem dL_office_246 : decode cL_office 246 = .ok (.goto 39, 3) := by decide +kernel
theorem dL_office_249 : decode cL_office 249 = .ok (.aload_n 2, 1) := by decide +kernel
theorem dL_office_250 : decode cL_office 250 = .ok (.getfield 66, 3) := by decide +kernel
theorem dL_office_253 : decode cL_office 253 = .ok (.iload 4, 2) := by decide +kernel
theorem dL_office_255 : decode cL_office 255 = .ok (.iaload, 1) := by decide +kernel
theorem dL_office_256 : decode cL_office 256 = .ok (.iconst 3, 1) := by decide +kernel
theorem dL_office_257 : decode cL_office 257 = .ok (.if_icmp .ge 14, 3) := by decide +kernel
theorem dL_office_260 : decode cL_office 260 = .ok (.iload 5, 2) := by decide +kernel
theorem dL_office_262 : decode cL_office 262 = .ok (.iconst 3, 1) := by decide +kernel
theorem dL_office_263 : decode cL_office 263 = .ok (.ishr, 1) := by decide +kernel
theorem dL_office_264 : decode cL_office 264 = .ok (.iconst 5, 1) := by decide +kernel
theorem dL_office_265 : decode cL_office 265 = .ok (.invokestatic 50, 3) := by decide +kernel
theorem dL_office_268 : decode cL_office 268 = .ok (.goto 17, 3) := by decide +kernel
theorem dL_office_271 : decode cL_office 271 = .ok (.iload 5, 2) := by decide +kernel
theorem dL_office_273 : decode cL_office 273 = .ok (.iconst 3, 1) := by decide +kernel
theorem dL_office_274 : decode cL_office 274 = .ok (.ishr, 1) := by decide +kernel
theorem dL_office_275 : decode cL_office 275 = .ok (.iload 4, 2) := by decide +kernel
theorem dL_office_277 : decode cL_office 277 = .ok (.bipush 6, 2) := by decide +kernel
theorem dL_office_279 : decode cL_office 279 = .ok (.invokestatic 72, 3) := by decide +kernel
theorem dL_office_282 : decode cL_office 282 = .ok (.invokestatic 50, 3) := by decide +kernel
theorem dL_office_285 : decode cL_office 285 = .ok (.iastore, 1) := by decide +kernel
theorem dL_office_286 : decode cL_office 286 = .ok (.aload_n 2, 1) := by decide +kernel
theorem dL_office_287 : decode cL_office 287 = .ok (.getfield 77, 3) := by decide +kernel
theorem dL_office_290 : decode cL_office 290 = .ok (.iload 4, 2) := by decide +kernel
theorem dL_office_292 : decode cL_office 292 = .ok (.aload_n 2, 1) := by decide +kernel
theorem dL_office_293 : decode cL_office 293 = .ok (.getfield 66, 3) := by decide +kernel
theorem dL_office_296 : decode cL_office 296 = .ok (.iload 4, 2) := by decide +kernel
theorem dL_office_298 : decode cL_office 298 = .ok (.iaload, 1) := by decide +kernel
theorem dL_office_299 : decode cL_office 299 = .ok (.ifCond .ne 16, 3) := by decide +kernel
theorem dL_office_302 : decode cL_office 302 = .ok (.iload 5, 2) := by decide +kernel
theorem dL_office_304 : decode cL_office 304 = .ok (.bipush 6, 2) := by decide +kernel
theorem dL_office_306 : decode cL_office 306 = .ok (.ishr, 1) := by decide +kernel
theorem dL_office_307 : decode cL_office 307 = .ok (.bipush 101, 2) := by decide +kernel
theorem dL_office_309 : decode cL_office 309 = .ok (.invokestatic 50, 3) := by decide +kernel
theorem dL_office_312 : decode cL_office 312 = .ok (.goto 33, 3) := by decide +kernel
theorem dL_office_315 : decode cL_office 315 = .ok (.aload_n 2, 1) := by decide +kernel
theorem dL_office_316 : decode cL_office 316 = .ok (.getfield 66, 3) := by decide +kernel
theorem dL_office_319 : decode cL_office 319 = .ok (.iload 4, 2) := by decide +kernel
theorem dL_office_321 : decode cL_office 321 = .ok (.iaload, 1) := by decide +kernel
theorem dL_office_322 : decode cL_office 322 = .ok (.iconst 3, 1) := by decide +kernel
theorem dL_office_323 : decode cL_office 323 = .ok (.if_icmp .ge 7, 3) := by decide +kernel
theorem dL_office_326 : decode cL_office 326 = .ok (.iconst 0, 1) := by decide +kernel
theorem dL_office_327 : decode cL_office 327 = .ok (.goto 18, 3) := by decide +kernel
theorem dL_office_330 : decode cL_office 330 = .ok (.iload 5, 2) := by decide +kernel
theorem dL_office_332 : decode cL_office 332 = .ok (.bipush 6, 2) := by decide +kernel
theorem dL_office_334 : decode cL_office 334 = .ok (.ishr, 1) := by decide +kernel
theorem dL_office_335 : decode cL_office 335 = .ok (.iload 4, 2) := by decide +kernel
theorem dL_office_337 : decode cL_office 337 = .ok (.bipush 6, 2) := by decide +kernel
theorem dL_office_339 : decode cL_office 339 = .ok (.invokestatic 72, 3) := by decide +kernel
theorem dL_office_342 : decode cL_office 342 = .ok (.invokestatic 50, 3) := by decide +kernel
theorem dL_office_345 : decode cL_office 345 = .ok (.iastore, 1) := by decide +kernel
theorem dL_office_346 : decode cL_office 346 = .ok (.aload_n 2, 1) := by decide +kernel
theorem dL_office_347 : decode cL_office 347 = .ok (.getfield 80, 3) := by decide +kernel
theorem dL_office_350 : decode cL_office 350 = .ok (.iload 4, 2) := by decide +kernel
theorem dL_office_352 : decode cL_office 352 = .ok (.aload_n 2, 1) := by decide +kernel
theorem dL_office_353 : decode cL_office 353 = .ok (.getfield 66, 3) := by decide +kernel
theorem dL_office_356 : decode cL_office 356 = .ok (.iload 4, 2) := by decide +kernel
theorem dL_office_358 : decode cL_office 358 = .ok (.iaload, 1) := by decide +kernel
theorem dL_office_359 : decode cL_office 359 = .ok (.iconst 3, 1) := by decide +kernel
theorem dL_office_360 : decode cL_office 360 = .ok (.if_icmp .ge 7, 3) := by decide +kernel
theorem dL_office_363 : decode cL_office 363 = .ok (.iconst 0, 1) := by decide +kernel
theorem dL_office_364 : decode cL_office 364 = .ok (.goto 18, 3) := by decide +kernel
theorem dL_office_367 : decode cL_office 367 = .ok (.iload 5, 2) := by decide +kernel
theorem dL_office_369 : decode cL_office 369 = .ok (.bipush 13, 2) := by decide +kernel
theorem dL_office_371 : decode cL_office 371 = .ok (.ishr, 1) := by decide +kernel
theorem dL_office_372 : decode cL_office 372 = .ok (.iload 4, 2) := by decide +kernel
theorem dL_office_374 : decode cL_office 374 = .ok (.bipush 6, 2) := by decide +kernel
theorem dL_office_376 : decode cL_office 376 = .ok (.invokestatic 72, 3) := by decide +kernel
theorem dL_office_379 : decode cL_office 379 = .ok (.invokestatic 50, 3) := by decide +kernel
theorem dL_office_382 : decode cL_office 382 = .ok (.iastore, 1) := by decide +kernel
theorem dL_office_383 : decode cL_office 383 = .ok (.aload_n 0, 1) := by decide +kernel
theorem dL_office_384 : decode cL_office 384 = .ok (.aload_n 2, 1) := by decide +kernel
theorem dL_office_385 : decode cL_office 385 = .ok (.iload 4, 2) := by decide +kernel
theorem dL_office_387 : decode cL_office 387 = .ok (.invokestatic 83, 3) := by decide +kernel
theorem dL_office_390 : decode cL_office 390 = .ok (.iload 4, 2) := by decide +kernel
theorem dL_office_392 : decode cL_office 392 = .ok (.if_icmp .ne 7, 3) := by decide +kernel
theorem dL_office_395 : decode cL_office 395 = .ok (.iconst 1, 1) := by decide +kernel
theorem dL_office_396 : decode cL_office 396 = .ok (.goto 4, 3) := by decide +kernel
theorem dL_office_399 : decode cL_office 399 = .ok (.iconst 0, 1) := by decide +kernel
theorem dL_office_400 : decode cL_office 400 = .ok (.istore_n 3, 1) := by decide +kernel
theorem dL_office_401 : decode cL_office 401 = .ok (.iinc 4 1, 3) := by decide +kernel
theorem dL_office_404 : decode cL_office 404 = .ok (.goto (-234), 3) := by decide +kernel
theorem dL_office_407 : decode cL_office 407 = .ok (.iload_n 3, 1) := by decide +kernel
theorem dL_office_408 : decode cL_office 408 = .ok (.ifCond .eq 7, 3) := by decide +kernel
theorem dL_office_411 : decode cL_office 411 = .ok (.aload_n 2, 1) := by decide +kernel
theorem dL_office_412 : decode cL_office 412 = .ok (.goto 4, 3) := by decide +kernel
theorem dL_office_415 : decode cL_office 415 = .ok (.aconst_null, 1) := by decide +kernel
theorem dL_office_416 : decode cL_office 416 = .ok (.areturn, 1) := by decide +kernel
theorem dL_adds_0 : decode cL_adds 0 = .ok (.aload_n 1, 1) := by decide +kernel
theorem dL_adds_1 : decode cL_adds 1 = .ok (.getfield 66, 3) := by decide +kernel
theorem dL_adds_4 : decode cL_adds 4 = .ok (.iload_n 2, 1) := by decide +kernel
theorem dL_adds_5 : decode cL_adds 5 = .ok (.iaload, 1) := by decide +kernel
theorem dL_adds_6 : decode cL_adds 6 = .ok (.tableswitch 134 0 5 #[38, 55, 66, 77, 94, 111], 38) := by decide +kernel
theorem dL_adds_44 : decode cL_adds 44 = .ok (.aload_n 0, 1) := by decide +kernel
theorem dL_adds_45 : decode cL_adds 45 = .ok (.aload_n 1, 1) := by decide +kernel
theorem dL_adds_46 : decode cL_adds 46 = .ok (.getfield 69, 3) := by decide +kernel
theorem dL_adds_49 : decode cL_adds 49 = .ok (.iload_n 2, 1) := by decide +kernel
theorem dL_adds_50 : decode cL_adds 50 = .ok (.iaload, 1) := by decide +kernel
theorem dL_adds_51 : decode cL_adds 51 = .ok (.aload_n 1, 1) := by decide +kernel
theorem dL_adds_52 : decode cL_adds 52 = .ok (.getfield 77, 3) := by decide +kernel
theorem dL_adds_55 : decode cL_adds 55 = .ok (.iload_n 2, 1) := by decide +kernel
theorem dL_adds_56 : decode cL_adds 56 = .ok (.iaload, 1) := by decide +kernel
theorem dL_adds_57 : decode cL_adds 57 = .ok (.invokevirtual 87, 3) := by decide +kernel
theorem dL_adds_60 : decode cL_adds 60 = .ok (.ireturn, 1) := by decide +kernel
theorem dL_adds_61 : decode cL_adds 61 = .ok (.aload_n 0, 1) := by decide +kernel
theorem dL_adds_62 : decode cL_adds 62 = .ok (.aload_n 1, 1) := by decide +kernel
theorem dL_adds_63 : decode cL_adds 63 = .ok (.getfield 69, 3) := by decide +kernel
theorem dL_adds_66 : decode cL_adds 66 = .ok (.iload_n 2, 1) := by decide +kernel
theorem dL_adds_67 : decode cL_adds 67 = .ok (.iaload, 1) := by decide +kernel
theorem dL_adds_68 : decode cL_adds 68 = .ok (.invokevirtual 90, 3) := by decide +kernel
theorem dL_adds_71 : decode cL_adds 71 = .ok (.ireturn, 1) := by decide +kernel
theorem dL_adds_72 : decode cL_adds 72 = .ok (.aload_n 0, 1) := by decide +kernel
theorem dL_adds_73 : decode cL_adds 73 = .ok (.aload_n 1, 1) := by decide +kernel
theorem dL_adds_74 : decode cL_adds 74 = .ok (.getfield 69, 3) := by decide +kernel
theorem dL_adds_77 : decode cL_adds 77 = .ok (.iload_n 2, 1) := by decide +kernel
theorem dL_adds_78 : decode cL_adds 78 = .ok (.iaload, 1) := by decide +kernel
theorem dL_adds_79 : decode cL_adds 79 = .ok (.invokevirtual 93, 3) := by decide +kernel
theorem dL_adds_82 : decode cL_adds 82 = .ok (.ireturn, 1) := by decide +kernel
theorem dL_adds_83 : decode cL_adds 83 = .ok (.aload_n 0, 1) := by decide +kernel
theorem dL_adds_84 : decode cL_adds 84 = .ok (.aload_n 1, 1) := by decide +kernel
theorem dL_adds_85 : decode cL_adds 85 = .ok (.getfield 69, 3) := by decide +kernel
theorem dL_adds_88 : decode cL_adds 88 = .ok (.iload_n 2, 1) := by decide +kernel
theorem dL_adds_89 : decode cL_adds 89 = .ok (.iaload, 1) := by decide +kernel
theorem dL_adds_90 : decode cL_adds 90 = .ok (.aload_n 1, 1) := by decide +kernel
theorem dL_adds_91 : decode cL_adds 91 = .ok (.getfield 77, 3) := by decide +kernel
theorem dL_adds_94 : decode cL_adds 94 = .ok (.iload_n 2, 1) := by decide +kernel
theorem dL_adds_95 : decode cL_adds 95 = .ok (.iaload, 1) := by decide +kernel
theorem dL_adds_96 : decode cL_adds 96 = .ok (.invokevirtual 96, 3) := by decide +kernel
theorem dL_adds_99 : decode cL_adds 99 = .ok (.ireturn, 1) := by decide +kernel
theorem dL_adds_100 : decode cL_adds 100 = .ok (.aload_n 0, 1) := by decide +kernel
theorem dL_adds_101 : decode cL_adds 101 = .ok (.aload_n 1, 1) := by decide +kernel
theorem dL_adds_102 : decode cL_adds 102 = .ok (.getfield 69, 3) := by decide +kernel
theorem dL_adds_105 : decode cL_adds 105 = .ok (.iload_n 2, 1) := by decide +kernel
theorem dL_adds_106 : decode cL_adds 106 = .ok (.iaload, 1) := by decide +kernel
theorem dL_adds_107 : decode cL_adds 107 = .ok (.aload_n 1, 1) := by decide +kernel
theorem dL_adds_108 : decode cL_adds 108 = .ok (.getfield 77, 3) := by decide +kernel
theorem dL_adds_111 : decode cL_adds 111 = .ok (.iload_n 2, 1) := by decide +kernel
theorem dL_adds_112 : decode cL_adds 112 = .ok (.iaload, 1) := by decide +kernel
theorem dL_adds_113 : decode cL_adds 113 = .ok (.invokevirtual 99, 3) := by decide +kernel
theorem dL_adds_116 : decode cL_adds 116 = .ok (.ireturn, 1) := by decide +kernel
theorem dL_adds_117 : decode cL_adds 117 = .ok (.aload_n 0, 1) := by decide +kernel
theorem dL_adds_118 : decode cL_adds 118 = .ok (.aload_n 1, 1) := by decide +kernel
theorem dL_adds_119 : decode cL_adds 119 = .ok (.getfield 69, 3) := by decide +kernel
theorem dL_adds_122 : decode cL_adds 122 = .ok (.iload_n 2, 1) := by decide +kernel
theorem dL_adds_123 : decode cL_adds 123 = .ok (.iaload, 1) := by decide +kernel
theorem dL_adds_124 : decode cL_adds 124 = .ok (.aload_n 1, 1) := by decide +kernel
theorem dL_adds_125 : decode cL_adds 125 = .ok (.getfield 77, 3) := by decide +kernel
theorem dL_adds_128 : decode cL_adds 128 = .ok (.iload_n 2, 1) := by decide +kernel
theorem dL_adds_129 : decode cL_adds 129 = .ok (.iaload, 1) := by decide +kernel
theorem dL_adds_130 : decode cL_adds 130 = .ok (.aload_n 1, 1) := by decide +kernel
theorem dL_adds_131 : decode cL_adds 131 = .ok (.getfield 80, 3) := by decide +kernel
theorem dL_adds_134 : decode cL_adds 134 = .ok (.iload_n 2, 1) := by decide +kernel
theorem dL_adds_135 : decode cL_adds 135 = .ok (.iaload, 1) := by decide +kernel
theorem dL_adds_136 : decode cL_adds 136 = .ok (.invokevirtual 102, 3) := by decide +kernel
theorem dL_adds_139 : decode cL_adds 139 = .ok (.ireturn, 1) := by decide +kernel
theorem dL_adds_140 : decode cL_adds 140 = .ok (.aload_n 0, 1) := by decide +kernel
theorem dL_adds_141 : decode cL_adds 141 = .ok (.aload_n 1, 1) := by decide +kernel
theorem dL_adds_142 : decode cL_adds 142 = .ok (.getfield 69, 3) := by decide +kernel
theorem dL_adds_145 : decode cL_adds 145 = .ok (.iload_n 2, 1) := by decide +kernel
theorem dL_adds_146 : decode cL_adds 146 = .ok (.iaload, 1) := by decide +kernel
theorem dL_adds_147 : decode cL_adds 147 = .ok (.invokevirtual 106, 3) := by decide +kernel
theorem dL_adds_150 : decode cL_adds 150 = .ok (.ireturn, 1) := by decide +kernel
theorem dL_agrees_0 : decode cL_agrees 0 = .ok (.iload_n 2, 1) := by decide +kernel
theorem dL_agrees_1 : decode cL_agrees 1 = .ok (.iconst 5, 1) := by decide +kernel
theorem dL_agrees_2 : decode cL_agrees 2 = .ok (.invokestatic 50, 3) := by decide +kernel
theorem dL_agrees_5 : decode cL_agrees 5 = .ok (.istore_n 3, 1) := by decide +kernel
theorem dL_agrees_6 : decode cL_agrees 6 = .ok (.iload_n 2, 1) := by decide +kernel
theorem dL_agrees_7 : decode cL_agrees 7 = .ok (.iconst 3, 1) := by decide +kernel
theorem dL_agrees_8 : decode cL_agrees 8 = .ok (.ishr, 1) := by decide +kernel
theorem dL_agrees_9 : decode cL_agrees 9 = .ok (.bipush 12, 2) := by decide +kernel
theorem dL_agrees_11 : decode cL_agrees 11 = .ok (.invokestatic 50, 3) := by decide +kernel
theorem dL_agrees_14 : decode cL_agrees 14 = .ok (.istore 4, 2) := by decide +kernel
theorem dL_agrees_16 : decode cL_agrees 16 = .ok (.aload_n 0, 1) := by decide +kernel
theorem dL_agrees_17 : decode cL_agrees 17 = .ok (.iload_n 3, 1) := by decide +kernel
theorem dL_agrees_18 : decode cL_agrees 18 = .ok (.iload 4, 2) := by decide +kernel
theorem dL_agrees_20 : decode cL_agrees 20 = .ok (.invokevirtual 109, 3) := by decide +kernel
theorem dL_agrees_23 : decode cL_agrees 23 = .ok (.aload_n 1, 1) := by decide +kernel
theorem dL_agrees_24 : decode cL_agrees 24 = .ok (.aload_n 0, 1) := by decide +kernel
theorem dL_agrees_25 : decode cL_agrees 25 = .ok (.iload 4, 2) := by decide +kernel
theorem dL_agrees_27 : decode cL_agrees 27 = .ok (.iload_n 3, 1) := by decide +kernel
theorem dL_agrees_28 : decode cL_agrees 28 = .ok (.invokevirtual 113, 3) := by decide +kernel
theorem dL_agrees_31 : decode cL_agrees 31 = .ok (.if_icmp .ne 45, 3) := by decide +kernel
theorem dL_agrees_34 : decode cL_agrees 34 = .ok (.aload_n 0, 1) := by decide +kernel
theorem dL_agrees_35 : decode cL_agrees 35 = .ok (.iload_n 3, 1) := by decide +kernel
theorem dL_agrees_36 : decode cL_agrees 36 = .ok (.invokevirtual 116, 3) := by decide +kernel
theorem dL_agrees_39 : decode cL_agrees 39 = .ok (.aload_n 1, 1) := by decide +kernel
theorem dL_agrees_40 : decode cL_agrees 40 = .ok (.aload_n 0, 1) := by decide +kernel
theorem dL_agrees_41 : decode cL_agrees 41 = .ok (.iload_n 3, 1) := by decide +kernel
theorem dL_agrees_42 : decode cL_agrees 42 = .ok (.invokevirtual 119, 3) := by decide +kernel
theorem dL_agrees_45 : decode cL_agrees 45 = .ok (.if_icmp .ne 31, 3) := by decide +kernel
theorem dL_agrees_48 : decode cL_agrees 48 = .ok (.aload_n 0, 1) := by decide +kernel
theorem dL_agrees_49 : decode cL_agrees 49 = .ok (.iload_n 3, 1) := by decide +kernel
theorem dL_agrees_50 : decode cL_agrees 50 = .ok (.invokevirtual 116, 3) := by decide +kernel
theorem dL_agrees_53 : decode cL_agrees 53 = .ok (.bipush 18, 2) := by decide +kernel
theorem dL_agrees_55 : decode cL_agrees 55 = .ok (.if_icmp .gt 21, 3) := by decide +kernel
theorem dL_agrees_58 : decode cL_agrees 58 = .ok (.aload_n 0, 1) := by decide +kernel
theorem dL_agrees_59 : decode cL_agrees 59 = .ok (.iload_n 3, 1) := by decide +kernel
theorem dL_agrees_60 : decode cL_agrees 60 = .ok (.invokevirtual 122, 3) := by decide +kernel
theorem dL_agrees_63 : decode cL_agrees 63 = .ok (.aload_n 1, 1) := by decide +kernel
theorem dL_agrees_64 : decode cL_agrees 64 = .ok (.aload_n 0, 1) := by decide +kernel
theorem dL_agrees_65 : decode cL_agrees 65 = .ok (.iload_n 3, 1) := by decide +kernel
theorem dL_agrees_66 : decode cL_agrees 66 = .ok (.invokevirtual 125, 3) := by decide +kernel
theorem dL_agrees_69 : decode cL_agrees 69 = .ok (.if_icmp .ne 7, 3) := by decide +kernel
theorem dL_agrees_72 : decode cL_agrees 72 = .ok (.iconst 1, 1) := by decide +kernel
theorem dL_agrees_73 : decode cL_agrees 73 = .ok (.goto 4, 3) := by decide +kernel
theorem dL_agrees_76 : decode cL_agrees 76 = .ok (.iconst 0, 1) := by decide +kernel
theorem dL_agrees_77 : decode cL_agrees 77 = .ok (.istore 5, 2) := by decide +kernel
theorem dL_agrees_79 : decode cL_agrees 79 = .ok (.iconst 0, 1) := by decide +kernel
theorem dL_agrees_80 : decode cL_agrees 80 = .ok (.istore 6, 2) := by decide +kernel
theorem dL_agrees_82 : decode cL_agrees 82 = .ok (.iload 6, 2) := by decide +kernel
theorem dL_agrees_84 : decode cL_agrees 84 = .ok (.iconst 5, 1) := by decide +kernel
theorem dL_agrees_85 : decode cL_agrees 85 = .ok (.if_icmp .ge 228, 3) := by decide +kernel
theorem dL_agrees_88 : decode cL_agrees 88 = .ok (.iload 5, 2) := by decide +kernel
theorem dL_agrees_90 : decode cL_agrees 90 = .ok (.ifCond .eq 223, 3) := by decide +kernel
theorem dL_agrees_93 : decode cL_agrees 93 = .ok (.aload_n 0, 1) := by decide +kernel
theorem dL_agrees_94 : decode cL_agrees 94 = .ok (.iload 6, 2) := by decide +kernel
theorem dL_agrees_96 : decode cL_agrees 96 = .ok (.invokevirtual 128, 3) := by decide +kernel
theorem dL_agrees_99 : decode cL_agrees 99 = .ok (.aload_n 1, 1) := by decide +kernel
theorem dL_agrees_100 : decode cL_agrees 100 = .ok (.aload_n 0, 1) := by decide +kernel
theorem dL_agrees_101 : decode cL_agrees 101 = .ok (.iload 6, 2) := by decide +kernel
theorem dL_agrees_103 : decode cL_agrees 103 = .ok (.iconst (-1), 1) := by decide +kernel
theorem dL_agrees_104 : decode cL_agrees 104 = .ok (.invokevirtual 131, 3) := by decide +kernel
theorem dL_agrees_107 : decode cL_agrees 107 = .ok (.if_icmp .ne 80, 3) := by decide +kernel
theorem dL_agrees_110 : decode cL_agrees 110 = .ok (.aload_n 0, 1) := by decide +kernel
theorem dL_agrees_111 : decode cL_agrees 111 = .ok (.iload 6, 2) := by decide +kernel
theorem dL_agrees_113 : decode cL_agrees 113 = .ok (.invokevirtual 128, 3) := by decide +kernel
theorem dL_agrees_116 : decode cL_agrees 116 = .ok (.aload_n 1, 1) := by decide +kernel
theorem dL_agrees_117 : decode cL_agrees 117 = .ok (.getfield 53, 3) := by decide +kernel
theorem dL_agrees_120 : decode cL_agrees 120 = .ok (.iload 6, 2) := by decide +kernel
theorem dL_agrees_122 : decode cL_agrees 122 = .ok (.iaload, 1) := by decide +kernel
theorem dL_agrees_123 : decode cL_agrees 123 = .ok (.if_icmp .gt 64, 3) := by decide +kernel
theorem dL_agrees_126 : decode cL_agrees 126 = .ok (.aload_n 0, 1) := by decide +kernel
theorem dL_agrees_127 : decode cL_agrees 127 = .ok (.iload 6, 2) := by decide +kernel
theorem dL_agrees_129 : decode cL_agrees 129 = .ok (.aload_n 1, 1) := by decide +kernel
theorem dL_agrees_130 : decode cL_agrees 130 = .ok (.getfield 59, 3) := by decide +kernel
theorem dL_agrees_133 : decode cL_agrees 133 = .ok (.iload_n 3, 1) := by decide +kernel
theorem dL_agrees_134 : decode cL_agrees 134 = .ok (.iaload, 1) := by decide +kernel
theorem dL_agrees_135 : decode cL_agrees 135 = .ok (.invokevirtual 135, 3) := by decide +kernel
theorem dL_agrees_138 : decode cL_agrees 138 = .ok (.aload_n 1, 1) := by decide +kernel
theorem dL_agrees_139 : decode cL_agrees 139 = .ok (.aload_n 0, 1) := by decide +kernel
theorem dL_agrees_140 : decode cL_agrees 140 = .ok (.iload 6, 2) := by decide +kernel
theorem dL_agrees_142 : decode cL_agrees 142 = .ok (.aload_n 1, 1) := by decide +kernel
theorem dL_agrees_143 : decode cL_agrees 143 = .ok (.getfield 59, 3) := by decide +kernel
theorem dL_agrees_146 : decode cL_agrees 146 = .ok (.iload_n 3, 1) := by decide +kernel
theorem dL_agrees_147 : decode cL_agrees 147 = .ok (.iaload, 1) := by decide +kernel
theorem dL_agrees_148 : decode cL_agrees 148 = .ok (.invokevirtual 138, 3) := by decide +kernel
theorem dL_agrees_151 : decode cL_agrees 151 = .ok (.if_icmp .ne 36, 3) := by decide +kernel
theorem dL_agrees_154 : decode cL_agrees 154 = .ok (.aload_n 0, 1) := by decide +kernel
theorem dL_agrees_155 : decode cL_agrees 155 = .ok (.iload_n 3, 1) := by decide +kernel
theorem dL_agrees_156 : decode cL_agrees 156 = .ok (.iload 6, 2) := by decide +kernel
theorem dL_agrees_158 : decode cL_agrees 158 = .ok (.invokevirtual 141, 3) := by decide +kernel
theorem dL_agrees_161 : decode cL_agrees 161 = .ok (.aload_n 1, 1) := by decide +kernel
theorem dL_agrees_162 : decode cL_agrees 162 = .ok (.aload_n 0, 1) := by decide +kernel
theorem dL_agrees_163 : decode cL_agrees 163 = .ok (.iload_n 3, 1) := by decide +kernel
theorem dL_agrees_164 : decode cL_agrees 164 = .ok (.iload 6, 2) := by decide +kernel
theorem dL_agrees_166 : decode cL_agrees 166 = .ok (.invokevirtual 144, 3) := by decide +kernel
theorem dL_agrees_169 : decode cL_agrees 169 = .ok (.if_icmp .ne 18, 3) := by decide +kernel
theorem dL_agrees_172 : decode cL_agrees 172 = .ok (.aload_n 0, 1) := by decide +kernel
theorem dL_agrees_173 : decode cL_agrees 173 = .ok (.iload 6, 2) := by decide +kernel
theorem dL_agrees_175 : decode cL_agrees 175 = .ok (.invokevirtual 148, 3) := by decide +kernel
theorem dL_agrees_178 : decode cL_agrees 178 = .ok (.bipush 6, 2) := by decide +kernel
theorem dL_agrees_180 : decode cL_agrees 180 = .ok (.if_icmp .gt 7, 3) := by decide +kernel
theorem dL_agrees_183 : decode cL_agrees 183 = .ok (.iconst 1, 1) := by decide +kernel
theorem dL_agrees_184 : decode cL_agrees 184 = .ok (.goto 4, 3) := by decide +kernel
theorem dL_agrees_187 : decode cL_agrees 187 = .ok (.iconst 0, 1) := by decide +kernel
theorem dL_agrees_188 : decode cL_agrees 188 = .ok (.istore 5, 2) := by decide +kernel
theorem dL_agrees_190 : decode cL_agrees 190 = .ok (.aload_n 0, 1) := by decide +kernel
theorem dL_agrees_191 : decode cL_agrees 191 = .ok (.iload_n 3, 1) := by decide +kernel
theorem dL_agrees_192 : decode cL_agrees 192 = .ok (.iload 6, 2) := by decide +kernel
theorem dL_agrees_194 : decode cL_agrees 194 = .ok (.invokestatic 151, 3) := by decide +kernel
theorem dL_agrees_197 : decode cL_agrees 197 = .ok (.istore 7, 2) := by decide +kernel
theorem dL_agrees_199 : decode cL_agrees 199 = .ok (.iload 5, 2) := by decide +kernel
theorem dL_agrees_201 : decode cL_agrees 201 = .ok (.ifCond .eq 42, 3) := by decide +kernel
theorem dL_agrees_204 : decode cL_agrees 204 = .ok (.iload 7, 2) := by decide +kernel
theorem dL_agrees_206 : decode cL_agrees 206 = .ok (.ifCond .lt 33, 3) := by decide +kernel
theorem dL_agrees_209 : decode cL_agrees 209 = .ok (.iload 7, 2) := by decide +kernel
theorem dL_agrees_211 : decode cL_agrees 211 = .ok (.aload_n 0, 1) := by decide +kernel
theorem dL_agrees_212 : decode cL_agrees 212 = .ok (.iload 6, 2) := by decide +kernel
theorem dL_agrees_214 : decode cL_agrees 214 = .ok (.invokevirtual 148, 3) := by decide +kernel
theorem dL_agrees_217 : decode cL_agrees 217 = .ok (.if_icmp .ge 26, 3) := by decide +kernel
theorem dL_agrees_220 : decode cL_agrees 220 = .ok (.aload_n 0, 1) := by decide +kernel
theorem dL_agrees_221 : decode cL_agrees 221 = .ok (.iload_n 3, 1) := by decide +kernel
theorem dL_agrees_222 : decode cL_agrees 222 = .ok (.iload 6, 2) := by decide +kernel
theorem dL_agrees_224 : decode cL_agrees 224 = .ok (.invokevirtual 154, 3) := by decide +kernel
theorem dL_agrees_227 : decode cL_agrees 227 = .ok (.ifCond .ne 16, 3) := by decide +kernel
theorem dL_agrees_230 : decode cL_agrees 230 = .ok (.aload_n 0, 1) := by decide +kernel
theorem dL_agrees_231 : decode cL_agrees 231 = .ok (.invokevirtual 157, 3) := by decide +kernel
theorem dL_agrees_234 : decode cL_agrees 234 = .ok (.bipush 6, 2) := by decide +kernel
theorem dL_agrees_236 : decode cL_agrees 236 = .ok (.if_icmp .ge 7, 3) := by decide +kernel
theorem dL_agrees_239 : decode cL_agrees 239 = .ok (.iconst 1, 1) := by decide +kernel
theorem dL_agrees_240 : decode cL_agrees 240 = .ok (.goto 4, 3) := by decide +kernel
theorem dL_agrees_243 : decode cL_agrees 243 = .ok (.iconst 0, 1) := by decide +kernel
theorem dL_agrees_244 : decode cL_agrees 244 = .ok (.istore 5, 2) := by decide +kernel
theorem dL_agrees_246 : decode cL_agrees 246 = .ok (.iload 5, 2) := by decide +kernel
theorem dL_agrees_248 : decode cL_agrees 248 = .ok (.ifCond .eq 56, 3) := by decide +kernel
theorem dL_agrees_251 : decode cL_agrees 251 = .ok (.iload 7, 2) := by decide +kernel
theorem dL_agrees_253 : decode cL_agrees 253 = .ok (.ifCond .lt 47, 3) := by decide +kernel
theorem dL_agrees_256 : decode cL_agrees 256 = .ok (.aload_n 0, 1) := by decide +kernel
theorem dL_agrees_257 : decode cL_agrees 257 = .ok (.iload 6, 2) := by decide +kernel
theorem dL_agrees_259 : decode cL_agrees 259 = .ok (.aload_n 1, 1) := by decide +kernel
theorem dL_agrees_260 : decode cL_agrees 260 = .ok (.getfield 59, 3) := by decide +kernel
theorem dL_agrees_263 : decode cL_agrees 263 = .ok (.iload_n 3, 1) := by decide +kernel
theorem dL_agrees_264 : decode cL_agrees 264 = .ok (.iaload, 1) := by decide +kernel
theorem dL_agrees_265 : decode cL_agrees 265 = .ok (.invokevirtual 135, 3) := by decide +kernel
theorem dL_agrees_268 : decode cL_agrees 268 = .ok (.ifCond .eq 32, 3) := by decide +kernel
theorem dL_agrees_271 : decode cL_agrees 271 = .ok (.aload_n 0, 1) := by decide +kernel
theorem dL_agrees_272 : decode cL_agrees 272 = .ok (.iload_n 3, 1) := by decide +kernel
theorem dL_agrees_273 : decode cL_agrees 273 = .ok (.invokevirtual 116, 3) := by decide +kernel
theorem dL_agrees_276 : decode cL_agrees 276 = .ok (.aload_n 1, 1) := by decide +kernel
theorem dL_agrees_277 : decode cL_agrees 277 = .ok (.getfield 40, 3) := by decide +kernel
theorem dL_agrees_280 : decode cL_agrees 280 = .ok (.iload 6, 2) := by decide +kernel
theorem dL_agrees_282 : decode cL_agrees 282 = .ok (.iaload, 1) := by decide +kernel
theorem dL_agrees_283 : decode cL_agrees 283 = .ok (.iadd, 1) := by decide +kernel
theorem dL_agrees_284 : decode cL_agrees 284 = .ok (.bipush 18, 2) := by decide +kernel
theorem dL_agrees_286 : decode cL_agrees 286 = .ok (.if_icmp .gt 14, 3) := by decide +kernel
theorem dL_agrees_289 : decode cL_agrees 289 = .ok (.aload_n 1, 1) := by decide +kernel
theorem dL_agrees_290 : decode cL_agrees 290 = .ok (.aload_n 0, 1) := by decide +kernel
theorem dL_agrees_291 : decode cL_agrees 291 = .ok (.iload_n 3, 1) := by decide +kernel
theorem dL_agrees_292 : decode cL_agrees 292 = .ok (.iload 6, 2) := by decide +kernel
theorem dL_agrees_294 : decode cL_agrees 294 = .ok (.invokevirtual 161, 3) := by decide +kernel
theorem dL_agrees_297 : decode cL_agrees 297 = .ok (.ifCond .ne 7, 3) := by decide +kernel
theorem dL_agrees_300 : decode cL_agrees 300 = .ok (.iconst 1, 1) := by decide +kernel
theorem dL_agrees_301 : decode cL_agrees 301 = .ok (.goto 4, 3) := by decide +kernel
theorem dL_agrees_304 : decode cL_agrees 304 = .ok (.iconst 0, 1) := by decide +kernel
theorem dL_agrees_305 : decode cL_agrees 305 = .ok (.istore 5, 2) := by decide +kernel
theorem dL_agrees_307 : decode cL_agrees 307 = .ok (.iinc 6 1, 3) := by decide +kernel
theorem dL_agrees_310 : decode cL_agrees 310 = .ok (.goto (-228), 3) := by decide +kernel
theorem dL_agrees_313 : decode cL_agrees 313 = .ok (.iload 5, 2) := by decide +kernel
theorem dL_agrees_315 : decode cL_agrees 315 = .ok (.ireturn, 1) := by decide +kernel
theorem dL_enrolls_0 : decode cL_enrolls 0 = .ok (.aload_n 1, 1) := by decide +kernel
theorem dL_enrolls_1 : decode cL_enrolls 1 = .ok (.aload_n 0, 1) := by decide +kernel
theorem dL_enrolls_2 : decode cL_enrolls 2 = .ok (.iload_n 2, 1) := by decide +kernel
theorem dL_enrolls_3 : decode cL_enrolls 3 = .ok (.iload_n 3, 1) := by decide +kernel
theorem dL_enrolls_4 : decode cL_enrolls 4 = .ok (.invokevirtual 144, 3) := by decide +kernel
theorem dL_enrolls_7 : decode cL_enrolls 7 = .ok (.istore 4, 2) := by decide +kernel
theorem dL_enrolls_9 : decode cL_enrolls 9 = .ok (.aload_n 0, 1) := by decide +kernel
theorem dL_enrolls_10 : decode cL_enrolls 10 = .ok (.iload_n 2, 1) := by decide +kernel
theorem dL_enrolls_11 : decode cL_enrolls 11 = .ok (.iload_n 3, 1) := by decide +kernel
theorem dL_enrolls_12 : decode cL_enrolls 12 = .ok (.invokestatic 164, 3) := by decide +kernel
theorem dL_enrolls_15 : decode cL_enrolls 15 = .ok (.istore 5, 2) := by decide +kernel
theorem dL_enrolls_17 : decode cL_enrolls 17 = .ok (.iload 5, 2) := by decide +kernel
theorem dL_enrolls_19 : decode cL_enrolls 19 = .ok (.iload 4, 2) := by decide +kernel
theorem dL_enrolls_21 : decode cL_enrolls 21 = .ok (.bipush 97, 2) := by decide +kernel
theorem dL_enrolls_23 : decode cL_enrolls 23 = .ok (.if_icmp .ne 8, 3) := by decide +kernel
theorem dL_enrolls_26 : decode cL_enrolls 26 = .ok (.bipush 114, 2) := by decide +kernel
theorem dL_enrolls_28 : decode cL_enrolls 28 = .ok (.goto 5, 3) := by decide +kernel
theorem dL_enrolls_31 : decode cL_enrolls 31 = .ok (.iload 4, 2) := by decide +kernel
theorem dL_enrolls_33 : decode cL_enrolls 33 = .ok (.if_icmp .ne 39, 3) := by decide +kernel
theorem dL_enrolls_36 : decode cL_enrolls 36 = .ok (.iload 5, 2) := by decide +kernel
theorem dL_enrolls_38 : decode cL_enrolls 38 = .ok (.bipush 101, 2) := by decide +kernel
theorem dL_enrolls_40 : decode cL_enrolls 40 = .ok (.if_icmp .ne 12, 3) := by decide +kernel
theorem dL_enrolls_43 : decode cL_enrolls 43 = .ok (.aload_n 0, 1) := by decide +kernel
theorem dL_enrolls_44 : decode cL_enrolls 44 = .ok (.iload_n 2, 1) := by decide +kernel
theorem dL_enrolls_45 : decode cL_enrolls 45 = .ok (.iload_n 3, 1) := by decide +kernel
theorem dL_enrolls_46 : decode cL_enrolls 46 = .ok (.invokevirtual 154, 3) := by decide +kernel
theorem dL_enrolls_49 : decode cL_enrolls 49 = .ok (.ifCond .eq 23, 3) := by decide +kernel
theorem dL_enrolls_52 : decode cL_enrolls 52 = .ok (.iload 5, 2) := by decide +kernel
theorem dL_enrolls_54 : decode cL_enrolls 54 = .ok (.bipush 119, 2) := by decide +kernel
theorem dL_enrolls_56 : decode cL_enrolls 56 = .ok (.if_icmp .ne 12, 3) := by decide +kernel
theorem dL_enrolls_59 : decode cL_enrolls 59 = .ok (.aload_n 0, 1) := by decide +kernel
theorem dL_enrolls_60 : decode cL_enrolls 60 = .ok (.iload_n 2, 1) := by decide +kernel
theorem dL_enrolls_61 : decode cL_enrolls 61 = .ok (.iload_n 3, 1) := by decide +kernel
theorem dL_enrolls_62 : decode cL_enrolls 62 = .ok (.invokestatic 151, 3) := by decide +kernel
theorem dL_enrolls_65 : decode cL_enrolls 65 = .ok (.ifCond .lt 7, 3) := by decide +kernel
theorem dL_enrolls_68 : decode cL_enrolls 68 = .ok (.iconst 1, 1) := by decide +kernel
theorem dL_enrolls_69 : decode cL_enrolls 69 = .ok (.goto 4, 3) := by decide +kernel
theorem dL_enrolls_72 : decode cL_enrolls 72 = .ok (.iconst 0, 1) := by decide +kernel
theorem dL_enrolls_73 : decode cL_enrolls 73 = .ok (.ireturn, 1) := by decide +kernel
theorem dL_drops_0 : decode cL_drops 0 = .ok (.aload_n 0, 1) := by decide +kernel
theorem dL_drops_1 : decode cL_drops 1 = .ok (.iload_n 2, 1) := by decide +kernel
theorem dL_drops_2 : decode cL_drops 2 = .ok (.iload_n 3, 1) := by decide +kernel
theorem dL_drops_3 : decode cL_drops 3 = .ok (.invokevirtual 154, 3) := by decide +kernel
theorem dL_drops_6 : decode cL_drops 6 = .ok (.istore 4, 2) := by decide +kernel
theorem dL_drops_8 : decode cL_drops 8 = .ok (.iload 4, 2) := by decide +kernel
theorem dL_drops_10 : decode cL_drops 10 = .ok (.ifCond .ne 12, 3) := by decide +kernel
theorem dL_drops_13 : decode cL_drops 13 = .ok (.aload_n 0, 1) := by decide +kernel
theorem dL_drops_14 : decode cL_drops 14 = .ok (.iload_n 2, 1) := by decide +kernel
theorem dL_drops_15 : decode cL_drops 15 = .ok (.iload_n 3, 1) := by decide +kernel
theorem dL_drops_16 : decode cL_drops 16 = .ok (.invokestatic 151, 3) := by decide +kernel
theorem dL_drops_19 : decode cL_drops 19 = .ok (.ifCond .lt 12, 3) := by decide +kernel
theorem dL_drops_22 : decode cL_drops 22 = .ok (.aload_n 0, 1) := by decide +kernel
theorem dL_drops_23 : decode cL_drops 23 = .ok (.invokevirtual 157, 3) := by decide +kernel
theorem dL_drops_26 : decode cL_drops 26 = .ok (.bipush 20, 2) := by decide +kernel
theorem dL_drops_28 : decode cL_drops 28 = .ok (.if_icmp .le 5, 3) := by decide +kernel
theorem dL_drops_31 : decode cL_drops 31 = .ok (.iconst 1, 1) := by decide +kernel
theorem dL_drops_32 : decode cL_drops 32 = .ok (.ireturn, 1) := by decide +kernel
theorem dL_drops_33 : decode cL_drops 33 = .ok (.aload_n 0, 1) := by decide +kernel
theorem dL_drops_34 : decode cL_drops 34 = .ok (.iload_n 2, 1) := by decide +kernel
theorem dL_drops_35 : decode cL_drops 35 = .ok (.iload_n 3, 1) := by decide +kernel
theorem dL_drops_36 : decode cL_drops 36 = .ok (.invokevirtual 166, 3) := by decide +kernel
theorem dL_drops_39 : decode cL_drops 39 = .ok (.istore 5, 2) := by decide +kernel
theorem dL_drops_41 : decode cL_drops 41 = .ok (.aload_n 0, 1) := by decide +kernel
theorem dL_drops_42 : decode cL_drops 42 = .ok (.invokevirtual 157, 3) := by decide +kernel
theorem dL_drops_45 : decode cL_drops 45 = .ok (.istore 6, 2) := by decide +kernel
theorem dL_drops_47 : decode cL_drops 47 = .ok (.aload_n 0, 1) := by decide +kernel
theorem dL_drops_48 : decode cL_drops 48 = .ok (.iload_n 2, 1) := by decide +kernel
theorem dL_drops_49 : decode cL_drops 49 = .ok (.iload_n 3, 1) := by decide +kernel
theorem dL_drops_50 : decode cL_drops 50 = .ok (.invokevirtual 169, 3) := by decide +kernel
theorem dL_drops_53 : decode cL_drops 53 = .ok (.istore 7, 2) := by decide +kernel
theorem dL_drops_55 : decode cL_drops 55 = .ok (.iload 7, 2) := by decide +kernel
theorem dL_drops_57 : decode cL_drops 57 = .ok (.iload 4, 2) := by decide +kernel
theorem dL_drops_59 : decode cL_drops 59 = .ok (.ifCond .eq 20, 3) := by decide +kernel
theorem dL_drops_62 : decode cL_drops 62 = .ok (.iload 6, 2) := by decide +kernel
theorem dL_drops_64 : decode cL_drops 64 = .ok (.bipush 9, 2) := by decide +kernel
theorem dL_drops_66 : decode cL_drops 66 = .ok (.if_icmp .ge 8, 3) := by decide +kernel
theorem dL_drops_69 : decode cL_drops 69 = .ok (.bipush 100, 2) := by decide +kernel
theorem dL_drops_71 : decode cL_drops 71 = .ok (.goto 10, 3) := by decide +kernel
theorem dL_drops_74 : decode cL_drops 74 = .ok (.bipush 119, 2) := by decide +kernel
theorem dL_drops_76 : decode cL_drops 76 = .ok (.goto 5, 3) := by decide +kernel
theorem dL_drops_79 : decode cL_drops 79 = .ok (.bipush 108, 2) := by decide +kernel
theorem dL_drops_81 : decode cL_drops 81 = .ok (.if_icmp .ne 31, 3) := by decide +kernel
theorem dL_drops_84 : decode cL_drops 84 = .ok (.aload_n 0, 1) := by decide +kernel
theorem dL_drops_85 : decode cL_drops 85 = .ok (.iload_n 2, 1) := by decide +kernel
theorem dL_drops_86 : decode cL_drops 86 = .ok (.iload_n 3, 1) := by decide +kernel
theorem dL_drops_87 : decode cL_drops 87 = .ok (.invokevirtual 166, 3) := by decide +kernel
theorem dL_drops_90 : decode cL_drops 90 = .ok (.iload 5, 2) := by decide +kernel
theorem dL_drops_92 : decode cL_drops 92 = .ok (.iload 7, 2) := by decide +kernel
theorem dL_drops_94 : decode cL_drops 94 = .ok (.bipush 119, 2) := by decide +kernel
theorem dL_drops_96 : decode cL_drops 96 = .ok (.if_icmp .ne 7, 3) := by decide +kernel
theorem dL_drops_99 : decode cL_drops 99 = .ok (.iconst 1, 1) := by decide +kernel
theorem dL_drops_100 : decode cL_drops 100 = .ok (.goto 4, 3) := by decide +kernel
theorem dL_drops_103 : decode cL_drops 103 = .ok (.iconst 0, 1) := by decide +kernel
theorem dL_drops_104 : decode cL_drops 104 = .ok (.iadd, 1) := by decide +kernel
theorem dL_drops_105 : decode cL_drops 105 = .ok (.if_icmp .ne 7, 3) := by decide +kernel
theorem dL_drops_108 : decode cL_drops 108 = .ok (.iconst 1, 1) := by decide +kernel
theorem dL_drops_109 : decode cL_drops 109 = .ok (.goto 4, 3) := by decide +kernel
theorem dL_drops_112 : decode cL_drops 112 = .ok (.iconst 0, 1) := by decide +kernel
theorem dL_drops_113 : decode cL_drops 113 = .ok (.istore 8, 2) := by decide +kernel
theorem dL_drops_115 : decode cL_drops 115 = .ok (.iconst 0, 1) := by decide +kernel
theorem dL_drops_116 : decode cL_drops 116 = .ok (.istore 9, 2) := by decide +kernel
theorem dL_drops_118 : decode cL_drops 118 = .ok (.iload 9, 2) := by decide +kernel
theorem dL_drops_120 : decode cL_drops 120 = .ok (.iconst 5, 1) := by decide +kernel
theorem dL_drops_121 : decode cL_drops 121 = .ok (.if_icmp .ge 53, 3) := by decide +kernel
theorem dL_drops_124 : decode cL_drops 124 = .ok (.iload 4, 2) := by decide +kernel
theorem dL_drops_126 : decode cL_drops 126 = .ok (.ifCond .eq 48, 3) := by decide +kernel
theorem dL_drops_129 : decode cL_drops 129 = .ok (.iload 6, 2) := by decide +kernel
theorem dL_drops_131 : decode cL_drops 131 = .ok (.iconst 5, 1) := by decide +kernel
theorem dL_drops_132 : decode cL_drops 132 = .ok (.if_icmp .le 42, 3) := by decide +kernel
theorem dL_drops_135 : decode cL_drops 135 = .ok (.iload 8, 2) := by decide +kernel
theorem dL_drops_137 : decode cL_drops 137 = .ok (.ifCond .eq 28, 3) := by decide +kernel
theorem dL_drops_140 : decode cL_drops 140 = .ok (.aload_n 0, 1) := by decide +kernel
theorem dL_drops_141 : decode cL_drops 141 = .ok (.iload_n 2, 1) := by decide +kernel
theorem dL_drops_142 : decode cL_drops 142 = .ok (.iload 9, 2) := by decide +kernel
theorem dL_drops_144 : decode cL_drops 144 = .ok (.invokevirtual 154, 3) := by decide +kernel
theorem dL_drops_147 : decode cL_drops 147 = .ok (.ifCond .eq 14, 3) := by decide +kernel
theorem dL_drops_150 : decode cL_drops 150 = .ok (.aload_n 1, 1) := by decide +kernel
theorem dL_drops_151 : decode cL_drops 151 = .ok (.aload_n 0, 1) := by decide +kernel
theorem dL_drops_152 : decode cL_drops 152 = .ok (.iload_n 2, 1) := by decide +kernel
theorem dL_drops_153 : decode cL_drops 153 = .ok (.iload 9, 2) := by decide +kernel
theorem dL_drops_155 : decode cL_drops 155 = .ok (.invokevirtual 161, 3) := by decide +kernel
theorem dL_drops_158 : decode cL_drops 158 = .ok (.ifCond .eq 7, 3) := by decide +kernel
theorem dL_drops_161 : decode cL_drops 161 = .ok (.iconst 1, 1) := by decide +kernel
theorem dL_drops_162 : decode cL_drops 162 = .ok (.goto 4, 3) := by decide +kernel
theorem dL_drops_165 : decode cL_drops 165 = .ok (.iconst 0, 1) := by decide +kernel
theorem dL_drops_166 : decode cL_drops 166 = .ok (.istore 8, 2) := by decide +kernel
theorem dL_drops_168 : decode cL_drops 168 = .ok (.iinc 9 1, 3) := by decide +kernel
theorem dL_drops_171 : decode cL_drops 171 = .ok (.goto (-53), 3) := by decide +kernel
theorem dL_drops_174 : decode cL_drops 174 = .ok (.iload 8, 2) := by decide +kernel
theorem dL_drops_176 : decode cL_drops 176 = .ok (.ireturn, 1) := by decide +kernel
theorem dL_ends_0 : decode cL_ends 0 = .ok (.aload_n 0, 1) := by decide +kernel
theorem dL_ends_1 : decode cL_ends 1 = .ok (.invokevirtual 157, 3) := by decide +kernel
theorem dL_ends_4 : decode cL_ends 4 = .ok (.bipush 21, 2) := by decide +kernel
theorem dL_ends_6 : decode cL_ends 6 = .ok (.if_icmp .ge 34, 3) := by decide +kernel
theorem dL_ends_9 : decode cL_ends 9 = .ok (.aload_n 0, 1) := by decide +kernel
theorem dL_ends_10 : decode cL_ends 10 = .ok (.iconst 1, 1) := by decide +kernel
theorem dL_ends_11 : decode cL_ends 11 = .ok (.iload_n 2, 1) := by decide +kernel
theorem dL_ends_12 : decode cL_ends 12 = .ok (.bipush 8, 2) := by decide +kernel
theorem dL_ends_14 : decode cL_ends 14 = .ok (.invokestatic 50, 3) := by decide +kernel
theorem dL_ends_17 : decode cL_ends 17 = .ok (.iadd, 1) := by decide +kernel
theorem dL_ends_18 : decode cL_ends 18 = .ok (.bipush 30, 2) := by decide +kernel
theorem dL_ends_20 : decode cL_ends 20 = .ok (.aload_n 0, 1) := by decide +kernel
theorem dL_ends_21 : decode cL_ends 21 = .ok (.invokevirtual 157, 3) := by decide +kernel
theorem dL_ends_24 : decode cL_ends 24 = .ok (.isub, 1) := by decide +kernel
theorem dL_ends_25 : decode cL_ends 25 = .ok (.invokestatic 72, 3) := by decide +kernel
theorem dL_ends_28 : decode cL_ends 28 = .ok (.invokevirtual 172, 3) := by decide +kernel
theorem dL_ends_31 : decode cL_ends 31 = .ok (.ifCond .le 7, 3) := by decide +kernel
theorem dL_ends_34 : decode cL_ends 34 = .ok (.iconst 1, 1) := by decide +kernel
theorem dL_ends_35 : decode cL_ends 35 = .ok (.goto 4, 3) := by decide +kernel
theorem dL_ends_38 : decode cL_ends 38 = .ok (.iconst 0, 1) := by decide +kernel
theorem dL_ends_39 : decode cL_ends 39 = .ok (.ireturn, 1) := by decide +kernel
theorem dL_ends_40 : decode cL_ends 40 = .ok (.iconst 0, 1) := by decide +kernel
theorem dL_ends_41 : decode cL_ends 41 = .ok (.istore_n 3, 1) := by decide +kernel
theorem dL_ends_42 : decode cL_ends 42 = .ok (.iconst 5, 1) := by decide +kernel
theorem dL_ends_43 : decode cL_ends 43 = .ok (.newarray .int, 2) := by decide +kernel
theorem dL_ends_45 : decode cL_ends 45 = .ok (.astore 4, 2) := by decide +kernel
theorem dL_ends_47 : decode cL_ends 47 = .ok (.iload_n 2, 1) := by decide +kernel
theorem dL_ends_48 : decode cL_ends 48 = .ok (.iconst 3, 1) := by decide +kernel
theorem dL_ends_49 : decode cL_ends 49 = .ok (.ishr, 1) := by decide +kernel
theorem dL_ends_50 : decode cL_ends 50 = .ok (.iconst 5, 1) := by decide +kernel
theorem dL_ends_51 : decode cL_ends 51 = .ok (.invokestatic 50, 3) := by decide +kernel
theorem dL_ends_54 : decode cL_ends 54 = .ok (.istore 5, 2) := by decide +kernel
theorem dL_ends_56 : decode cL_ends 56 = .ok (.iconst 0, 1) := by decide +kernel
theorem dL_ends_57 : decode cL_ends 57 = .ok (.istore 6, 2) := by decide +kernel
theorem dL_ends_59 : decode cL_ends 59 = .ok (.iload 6, 2) := by decide +kernel
theorem dL_ends_61 : decode cL_ends 61 = .ok (.iconst 5, 1) := by decide +kernel
theorem dL_ends_62 : decode cL_ends 62 = .ok (.if_icmp .ge 85, 3) := by decide +kernel
theorem dL_ends_65 : decode cL_ends 65 = .ok (.iload_n 3, 1) := by decide +kernel
theorem dL_ends_66 : decode cL_ends 66 = .ok (.aload_n 1, 1) := by decide +kernel
theorem dL_ends_67 : decode cL_ends 67 = .ok (.aload_n 0, 1) := by decide +kernel
theorem dL_ends_68 : decode cL_ends 68 = .ok (.iload 6, 2) := by decide +kernel
theorem dL_ends_70 : decode cL_ends 70 = .ok (.iconst (-1), 1) := by decide +kernel
theorem dL_ends_71 : decode cL_ends 71 = .ok (.invokevirtual 131, 3) := by decide +kernel
theorem dL_ends_74 : decode cL_ends 74 = .ok (.iadd, 1) := by decide +kernel
theorem dL_ends_75 : decode cL_ends 75 = .ok (.istore_n 3, 1) := by decide +kernel
theorem dL_ends_76 : decode cL_ends 76 = .ok (.aload 4, 2) := by decide +kernel
theorem dL_ends_78 : decode cL_ends 78 = .ok (.iload 6, 2) := by decide +kernel
theorem dL_ends_80 : decode cL_ends 80 = .ok (.aload_n 0, 1) := by decide +kernel
theorem dL_ends_81 : decode cL_ends 81 = .ok (.iload 5, 2) := by decide +kernel
theorem dL_ends_83 : decode cL_ends 83 = .ok (.iload 6, 2) := by decide +kernel
theorem dL_ends_85 : decode cL_ends 85 = .ok (.invokevirtual 166, 3) := by decide +kernel
theorem dL_ends_88 : decode cL_ends 88 = .ok (.aload_n 0, 1) := by decide +kernel
theorem dL_ends_89 : decode cL_ends 89 = .ok (.iload 5, 2) := by decide +kernel
theorem dL_ends_91 : decode cL_ends 91 = .ok (.iload 6, 2) := by decide +kernel
theorem dL_ends_93 : decode cL_ends 93 = .ok (.invokevirtual 154, 3) := by decide +kernel
theorem dL_ends_96 : decode cL_ends 96 = .ok (.ifCond .eq 7, 3) := by decide +kernel
theorem dL_ends_99 : decode cL_ends 99 = .ok (.iconst 1, 1) := by decide +kernel
theorem dL_ends_100 : decode cL_ends 100 = .ok (.goto 4, 3) := by decide +kernel
theorem dL_ends_103 : decode cL_ends 103 = .ok (.iconst 0, 1) := by decide +kernel
theorem dL_ends_104 : decode cL_ends 104 = .ok (.iadd, 1) := by decide +kernel
theorem dL_ends_105 : decode cL_ends 105 = .ok (.iastore, 1) := by decide +kernel
theorem dL_ends_106 : decode cL_ends 106 = .ok (.aload_n 0, 1) := by decide +kernel
theorem dL_ends_107 : decode cL_ends 107 = .ok (.iload 5, 2) := by decide +kernel
theorem dL_ends_109 : decode cL_ends 109 = .ok (.iload 6, 2) := by decide +kernel
theorem dL_ends_111 : decode cL_ends 111 = .ok (.invokevirtual 154, 3) := by decide +kernel
theorem dL_ends_114 : decode cL_ends 114 = .ok (.ifCond .eq 27, 3) := by decide +kernel
theorem dL_ends_117 : decode cL_ends 117 = .ok (.aload_n 0, 1) := by decide +kernel
theorem dL_ends_118 : decode cL_ends 118 = .ok (.iload 5, 2) := by decide +kernel
theorem dL_ends_120 : decode cL_ends 120 = .ok (.iload 6, 2) := by decide +kernel
theorem dL_ends_122 : decode cL_ends 122 = .ok (.iload_n 2, 1) := by decide +kernel
theorem dL_ends_123 : decode cL_ends 123 = .ok (.iconst 4, 1) := by decide +kernel
theorem dL_ends_124 : decode cL_ends 124 = .ok (.iload 6, 2) := by decide +kernel
theorem dL_ends_126 : decode cL_ends 126 = .ok (.iadd, 1) := by decide +kernel
theorem dL_ends_127 : decode cL_ends 127 = .ok (.ishr, 1) := by decide +kernel
theorem dL_ends_128 : decode cL_ends 128 = .ok (.bipush 101, 2) := by decide +kernel
theorem dL_ends_130 : decode cL_ends 130 = .ok (.invokestatic 50, 3) := by decide +kernel
theorem dL_ends_133 : decode cL_ends 133 = .ok (.invokevirtual 175, 3) := by decide +kernel
theorem dL_ends_136 : decode cL_ends 136 = .ok (.ifCond .eq 5, 3) := by decide +kernel
theorem dL_ends_139 : decode cL_ends 139 = .ok (.iconst 0, 1) := by decide +kernel
theorem dL_ends_140 : decode cL_ends 140 = .ok (.ireturn, 1) := by decide +kernel
theorem dL_ends_141 : decode cL_ends 141 = .ok (.iinc 6 1, 3) := by decide +kernel
theorem dL_ends_144 : decode cL_ends 144 = .ok (.goto (-85), 3) := by decide +kernel
theorem dL_ends_147 : decode cL_ends 147 = .ok (.aload_n 0, 1) := by decide +kernel
theorem dL_ends_148 : decode cL_ends 148 = .ok (.invokevirtual 179, 3) := by decide +kernel
theorem dL_ends_151 : decode cL_ends 151 = .ok (.iload_n 3, 1) := by decide +kernel
theorem dL_ends_152 : decode cL_ends 152 = .ok (.if_icmp .ne 14, 3) := by decide +kernel
theorem dL_ends_155 : decode cL_ends 155 = .ok (.aload_n 0, 1) := by decide +kernel
theorem dL_ends_156 : decode cL_ends 156 = .ok (.invokevirtual 157, 3) := by decide +kernel
theorem dL_ends_159 : decode cL_ends 159 = .ok (.ifCond .ne 7, 3) := by decide +kernel
theorem dL_ends_162 : decode cL_ends 162 = .ok (.iconst 1, 1) := by decide +kernel
theorem dL_ends_163 : decode cL_ends 163 = .ok (.goto 4, 3) := by decide +kernel
theorem dL_ends_166 : decode cL_ends 166 = .ok (.iconst 0, 1) := by decide +kernel
theorem dL_ends_167 : decode cL_ends 167 = .ok (.istore 6, 2) := by decide +kernel
theorem dL_ends_169 : decode cL_ends 169 = .ok (.iconst 0, 1) := by decide +kernel
theorem dL_ends_170 : decode cL_ends 170 = .ok (.istore 7, 2) := by decide +kernel
theorem dL_ends_172 : decode cL_ends 172 = .ok (.iload 7, 2) := by decide +kernel
theorem dL_ends_174 : decode cL_ends 174 = .ok (.iconst 5, 1) := by decide +kernel
theorem dL_ends_175 : decode cL_ends 175 = .ok (.if_icmp .ge 48, 3) := by decide +kernel
theorem dL_ends_178 : decode cL_ends 178 = .ok (.iload 6, 2) := by decide +kernel
theorem dL_ends_180 : decode cL_ends 180 = .ok (.ifCond .eq 34, 3) := by decide +kernel
theorem dL_ends_183 : decode cL_ends 183 = .ok (.aload_n 0, 1) := by decide +kernel
theorem dL_ends_184 : decode cL_ends 184 = .ok (.iload 5, 2) := by decide +kernel
theorem dL_ends_186 : decode cL_ends 186 = .ok (.iload 7, 2) := by decide +kernel
theorem dL_ends_188 : decode cL_ends 188 = .ok (.invokevirtual 166, 3) := by decide +kernel
theorem dL_ends_191 : decode cL_ends 191 = .ok (.aload 4, 2) := by decide +kernel
theorem dL_ends_193 : decode cL_ends 193 = .ok (.iload 7, 2) := by decide +kernel
theorem dL_ends_195 : decode cL_ends 195 = .ok (.iaload, 1) := by decide +kernel
theorem dL_ends_196 : decode cL_ends 196 = .ok (.if_icmp .ne 18, 3) := by decide +kernel
theorem dL_ends_199 : decode cL_ends 199 = .ok (.aload_n 0, 1) := by decide +kernel
theorem dL_ends_200 : decode cL_ends 200 = .ok (.iload 5, 2) := by decide +kernel
theorem dL_ends_202 : decode cL_ends 202 = .ok (.iload 7, 2) := by decide +kernel
theorem dL_ends_204 : decode cL_ends 204 = .ok (.invokevirtual 154, 3) := by decide +kernel
theorem dL_ends_207 : decode cL_ends 207 = .ok (.ifCond .ne 7, 3) := by decide +kernel
theorem dL_ends_210 : decode cL_ends 210 = .ok (.iconst 1, 1) := by decide +kernel
theorem dL_ends_211 : decode cL_ends 211 = .ok (.goto 4, 3) := by decide +kernel
theorem dL_ends_214 : decode cL_ends 214 = .ok (.iconst 0, 1) := by decide +kernel
theorem dL_ends_215 : decode cL_ends 215 = .ok (.istore 6, 2) := by decide +kernel
theorem dL_ends_217 : decode cL_ends 217 = .ok (.iinc 7 1, 3) := by decide +kernel
theorem dL_ends_220 : decode cL_ends 220 = .ok (.goto (-48), 3) := by decide +kernel
theorem dL_ends_223 : decode cL_ends 223 = .ok (.iload 6, 2) := by decide +kernel
theorem dL_ends_225 : decode cL_ends 225 = .ok (.ireturn, 1) := by decide +kernel
theorem dL_changes_0 : decode cL_changes 0 = .ok (.iload_n 2, 1) := by decide +kernel
theorem dL_changes_1 : decode cL_changes 1 = .ok (.iconst 3, 1) := by decide +kernel
theorem dL_changes_2 : decode cL_changes 2 = .ok (.ishr, 1) := by decide +kernel
theorem dL_changes_3 : decode cL_changes 3 = .ok (.iconst 5, 1) := by decide +kernel
theorem dL_changes_4 : decode cL_changes 4 = .ok (.invokestatic 50, 3) := by decide +kernel
theorem dL_changes_7 : decode cL_changes 7 = .ok (.istore_n 3, 1) := by decide +kernel
theorem dL_changes_8 : decode cL_changes 8 = .ok (.iload_n 2, 1) := by decide +kernel
theorem dL_changes_9 : decode cL_changes 9 = .ok (.bipush 6, 2) := by decide +kernel
theorem dL_changes_11 : decode cL_changes 11 = .ok (.ishr, 1) := by decide +kernel
theorem dL_changes_12 : decode cL_changes 12 = .ok (.iconst 4, 1) := by decide +kernel
end
section
theorem dL_changes_13 : decode cL_changes 13 = .ok (.invokestatic 50, 3) := by decide +kernel
theorem dL_changes_16 : decode cL_changes 16 = .ok (.istore 4, 2) := by decide +kernel
theorem dL_changes_18 : decode cL_changes 18 = .ok (.iload_n 2, 1) := by decide +kernel
theorem dL_changes_19 : decode cL_changes 19 = .ok (.iconst 5, 1) := by decide +kernel
theorem dL_changes_20 : decode cL_changes 20 = .ok (.invokestatic 50, 3) := by decide +kernel
theorem dL_changes_23 : decode cL_changes 23 = .ok (.tableswitch 264 0 3 #[29, 138, 191, 230], 29) := by decide +kernel
theorem dL_changes_52 : decode cL_changes 52 = .ok (.aload_n 1, 1) := by decide +kernel
theorem dL_changes_53 : decode cL_changes 53 = .ok (.getfield 53, 3) := by decide +kernel
theorem dL_changes_56 : decode cL_changes 56 = .ok (.iload_n 3, 1) := by decide +kernel
theorem dL_changes_57 : decode cL_changes 57 = .ok (.iaload, 1) := by decide +kernel
theorem dL_changes_58 : decode cL_changes 58 = .ok (.istore 5, 2) := by decide +kernel
theorem dL_changes_60 : decode cL_changes 60 = .ok (.iconst 0, 1) := by decide +kernel
theorem dL_changes_61 : decode cL_changes 61 = .ok (.istore 6, 2) := by decide +kernel
theorem dL_changes_63 : decode cL_changes 63 = .ok (.iload 6, 2) := by decide +kernel
theorem dL_changes_65 : decode cL_changes 65 = .ok (.iconst 4, 1) := by decide +kernel
theorem dL_changes_66 : decode cL_changes 66 = .ok (.if_icmp .ge 36, 3) := by decide +kernel
theorem dL_changes_69 : decode cL_changes 69 = .ok (.iload 5, 2) := by decide +kernel
theorem dL_changes_71 : decode cL_changes 71 = .ok (.iload 6, 2) := by decide +kernel
theorem dL_changes_73 : decode cL_changes 73 = .ok (.iload 4, 2) := by decide +kernel
theorem dL_changes_75 : decode cL_changes 75 = .ok (.if_icmp .ne 7, 3) := by decide +kernel
theorem dL_changes_78 : decode cL_changes 78 = .ok (.iconst 0, 1) := by decide +kernel
theorem dL_changes_79 : decode cL_changes 79 = .ok (.goto 14, 3) := by decide +kernel
theorem dL_changes_82 : decode cL_changes 82 = .ok (.aload_n 1, 1) := by decide +kernel
theorem dL_changes_83 : decode cL_changes 83 = .ok (.getfield 182, 3) := by decide +kernel
theorem dL_changes_86 : decode cL_changes 86 = .ok (.iconst 4, 1) := by decide +kernel
theorem dL_changes_87 : decode cL_changes 87 = .ok (.iload_n 3, 1) := by decide +kernel
theorem dL_changes_88 : decode cL_changes 88 = .ok (.imul, 1) := by decide +kernel
theorem dL_changes_89 : decode cL_changes 89 = .ok (.iload 6, 2) := by decide +kernel
theorem dL_changes_91 : decode cL_changes 91 = .ok (.iadd, 1) := by decide +kernel
theorem dL_changes_92 : decode cL_changes 92 = .ok (.iaload, 1) := by decide +kernel
theorem dL_changes_93 : decode cL_changes 93 = .ok (.isub, 1) := by decide +kernel
theorem dL_changes_94 : decode cL_changes 94 = .ok (.istore 5, 2) := by decide +kernel
theorem dL_changes_96 : decode cL_changes 96 = .ok (.iinc 6 1, 3) := by decide +kernel
theorem dL_changes_99 : decode cL_changes 99 = .ok (.goto (-36), 3) := by decide +kernel
theorem dL_changes_102 : decode cL_changes 102 = .ok (.iload_n 2, 1) := by decide +kernel
theorem dL_changes_103 : decode cL_changes 103 = .ok (.bipush 8, 2) := by decide +kernel
theorem dL_changes_105 : decode cL_changes 105 = .ok (.ishr, 1) := by decide +kernel
theorem dL_changes_106 : decode cL_changes 106 = .ok (.iload 5, 2) := by decide +kernel
theorem dL_changes_108 : decode cL_changes 108 = .ok (.iconst 1, 1) := by decide +kernel
theorem dL_changes_109 : decode cL_changes 109 = .ok (.iadd, 1) := by decide +kernel
theorem dL_changes_110 : decode cL_changes 110 = .ok (.invokestatic 50, 3) := by decide +kernel
theorem dL_changes_113 : decode cL_changes 113 = .ok (.istore 6, 2) := by decide +kernel
theorem dL_changes_115 : decode cL_changes 115 = .ok (.aload_n 1, 1) := by decide +kernel
theorem dL_changes_116 : decode cL_changes 116 = .ok (.getfield 182, 3) := by decide +kernel
theorem dL_changes_119 : decode cL_changes 119 = .ok (.iconst 4, 1) := by decide +kernel
theorem dL_changes_120 : decode cL_changes 120 = .ok (.iload_n 3, 1) := by decide +kernel
theorem dL_changes_121 : decode cL_changes 121 = .ok (.imul, 1) := by decide +kernel
theorem dL_changes_122 : decode cL_changes 122 = .ok (.iload 4, 2) := by decide +kernel
theorem dL_changes_124 : decode cL_changes 124 = .ok (.iadd, 1) := by decide +kernel
theorem dL_changes_125 : decode cL_changes 125 = .ok (.iaload, 1) := by decide +kernel
theorem dL_changes_126 : decode cL_changes 126 = .ok (.istore 7, 2) := by decide +kernel
theorem dL_changes_128 : decode cL_changes 128 = .ok (.aload_n 1, 1) := by decide +kernel
theorem dL_changes_129 : decode cL_changes 129 = .ok (.getfield 182, 3) := by decide +kernel
theorem dL_changes_132 : decode cL_changes 132 = .ok (.iconst 4, 1) := by decide +kernel
theorem dL_changes_133 : decode cL_changes 133 = .ok (.iload_n 3, 1) := by decide +kernel
theorem dL_changes_134 : decode cL_changes 134 = .ok (.imul, 1) := by decide +kernel
theorem dL_changes_135 : decode cL_changes 135 = .ok (.iload 4, 2) := by decide +kernel
theorem dL_changes_137 : decode cL_changes 137 = .ok (.iadd, 1) := by decide +kernel
theorem dL_changes_138 : decode cL_changes 138 = .ok (.iload 6, 2) := by decide +kernel
theorem dL_changes_140 : decode cL_changes 140 = .ok (.iastore, 1) := by decide +kernel
theorem dL_changes_141 : decode cL_changes 141 = .ok (.aload_n 0, 1) := by decide +kernel
theorem dL_changes_142 : decode cL_changes 142 = .ok (.iload_n 3, 1) := by decide +kernel
theorem dL_changes_143 : decode cL_changes 143 = .ok (.iload 4, 2) := by decide +kernel
theorem dL_changes_145 : decode cL_changes 145 = .ok (.iload 6, 2) := by decide +kernel
theorem dL_changes_147 : decode cL_changes 147 = .ok (.invokevirtual 185, 3) := by decide +kernel
theorem dL_changes_150 : decode cL_changes 150 = .ok (.iload 7, 2) := by decide +kernel
theorem dL_changes_152 : decode cL_changes 152 = .ok (.if_icmp .ne 7, 3) := by decide +kernel
theorem dL_changes_155 : decode cL_changes 155 = .ok (.iconst 1, 1) := by decide +kernel
theorem dL_changes_156 : decode cL_changes 156 = .ok (.goto 4, 3) := by decide +kernel
theorem dL_changes_159 : decode cL_changes 159 = .ok (.iconst 0, 1) := by decide +kernel
theorem dL_changes_160 : decode cL_changes 160 = .ok (.ireturn, 1) := by decide +kernel
theorem dL_changes_161 : decode cL_changes 161 = .ok (.aload_n 1, 1) := by decide +kernel
theorem dL_changes_162 : decode cL_changes 162 = .ok (.getfield 188, 3) := by decide +kernel
theorem dL_changes_165 : decode cL_changes 165 = .ok (.iload_n 3, 1) := by decide +kernel
theorem dL_changes_166 : decode cL_changes 166 = .ok (.iaload, 1) := by decide +kernel
theorem dL_changes_167 : decode cL_changes 167 = .ok (.ifCond .lt 7, 3) := by decide +kernel
theorem dL_changes_170 : decode cL_changes 170 = .ok (.iconst 1, 1) := by decide +kernel
theorem dL_changes_171 : decode cL_changes 171 = .ok (.goto 4, 3) := by decide +kernel
theorem dL_changes_174 : decode cL_changes 174 = .ok (.iconst 0, 1) := by decide +kernel
theorem dL_changes_175 : decode cL_changes 175 = .ok (.istore 5, 2) := by decide +kernel
theorem dL_changes_177 : decode cL_changes 177 = .ok (.aload_n 1, 1) := by decide +kernel
theorem dL_changes_178 : decode cL_changes 178 = .ok (.getfield 188, 3) := by decide +kernel
theorem dL_changes_181 : decode cL_changes 181 = .ok (.iload_n 3, 1) := by decide +kernel
theorem dL_changes_182 : decode cL_changes 182 = .ok (.iload_n 2, 1) := by decide +kernel
theorem dL_changes_183 : decode cL_changes 183 = .ok (.bipush 8, 2) := by decide +kernel
theorem dL_changes_185 : decode cL_changes 185 = .ok (.ishr, 1) := by decide +kernel
theorem dL_changes_186 : decode cL_changes 186 = .ok (.bipush 12, 2) := by decide +kernel
theorem dL_changes_188 : decode cL_changes 188 = .ok (.invokestatic 50, 3) := by decide +kernel
theorem dL_changes_191 : decode cL_changes 191 = .ok (.iastore, 1) := by decide +kernel
theorem dL_changes_192 : decode cL_changes 192 = .ok (.aload_n 0, 1) := by decide +kernel
theorem dL_changes_193 : decode cL_changes 193 = .ok (.iload_n 3, 1) := by decide +kernel
theorem dL_changes_194 : decode cL_changes 194 = .ok (.aload_n 1, 1) := by decide +kernel
theorem dL_changes_195 : decode cL_changes 195 = .ok (.getfield 188, 3) := by decide +kernel
theorem dL_changes_198 : decode cL_changes 198 = .ok (.iload_n 3, 1) := by decide +kernel
theorem dL_changes_199 : decode cL_changes 199 = .ok (.iaload, 1) := by decide +kernel
theorem dL_changes_200 : decode cL_changes 200 = .ok (.invokevirtual 191, 3) := by decide +kernel
theorem dL_changes_203 : decode cL_changes 203 = .ok (.iload 5, 2) := by decide +kernel
theorem dL_changes_205 : decode cL_changes 205 = .ok (.if_icmp .ne 7, 3) := by decide +kernel
theorem dL_changes_208 : decode cL_changes 208 = .ok (.iconst 1, 1) := by decide +kernel
theorem dL_changes_209 : decode cL_changes 209 = .ok (.goto 4, 3) := by decide +kernel
theorem dL_changes_212 : decode cL_changes 212 = .ok (.iconst 0, 1) := by decide +kernel
theorem dL_changes_213 : decode cL_changes 213 = .ok (.ireturn, 1) := by decide +kernel
theorem dL_changes_214 : decode cL_changes 214 = .ok (.aload_n 1, 1) := by decide +kernel
theorem dL_changes_215 : decode cL_changes 215 = .ok (.getfield 188, 3) := by decide +kernel
theorem dL_changes_218 : decode cL_changes 218 = .ok (.iload_n 3, 1) := by decide +kernel
theorem dL_changes_219 : decode cL_changes 219 = .ok (.iaload, 1) := by decide +kernel
theorem dL_changes_220 : decode cL_changes 220 = .ok (.ifCond .lt 7, 3) := by decide +kernel
theorem dL_changes_223 : decode cL_changes 223 = .ok (.iconst 1, 1) := by decide +kernel
theorem dL_changes_224 : decode cL_changes 224 = .ok (.goto 4, 3) := by decide +kernel
theorem dL_changes_227 : decode cL_changes 227 = .ok (.iconst 0, 1) := by decide +kernel
theorem dL_changes_228 : decode cL_changes 228 = .ok (.istore 5, 2) := by decide +kernel
theorem dL_changes_230 : decode cL_changes 230 = .ok (.aload_n 1, 1) := by decide +kernel
theorem dL_changes_231 : decode cL_changes 231 = .ok (.getfield 188, 3) := by decide +kernel
theorem dL_changes_234 : decode cL_changes 234 = .ok (.iload_n 3, 1) := by decide +kernel
theorem dL_changes_235 : decode cL_changes 235 = .ok (.iconst (-1), 1) := by decide +kernel
theorem dL_changes_236 : decode cL_changes 236 = .ok (.iastore, 1) := by decide +kernel
theorem dL_changes_237 : decode cL_changes 237 = .ok (.aload_n 0, 1) := by decide +kernel
theorem dL_changes_238 : decode cL_changes 238 = .ok (.iload_n 3, 1) := by decide +kernel
theorem dL_changes_239 : decode cL_changes 239 = .ok (.invokevirtual 194, 3) := by decide +kernel
theorem dL_changes_242 : decode cL_changes 242 = .ok (.iload 5, 2) := by decide +kernel
theorem dL_changes_244 : decode cL_changes 244 = .ok (.if_icmp .ne 7, 3) := by decide +kernel
theorem dL_changes_247 : decode cL_changes 247 = .ok (.iconst 1, 1) := by decide +kernel
theorem dL_changes_248 : decode cL_changes 248 = .ok (.goto 4, 3) := by decide +kernel
theorem dL_changes_251 : decode cL_changes 251 = .ok (.iconst 0, 1) := by decide +kernel
theorem dL_changes_252 : decode cL_changes 252 = .ok (.ireturn, 1) := by decide +kernel
theorem dL_changes_253 : decode cL_changes 253 = .ok (.aload_n 1, 1) := by decide +kernel
theorem dL_changes_254 : decode cL_changes 254 = .ok (.getfield 59, 3) := by decide +kernel
theorem dL_changes_257 : decode cL_changes 257 = .ok (.iload_n 3, 1) := by decide +kernel
theorem dL_changes_258 : decode cL_changes 258 = .ok (.iaload, 1) := by decide +kernel
theorem dL_changes_259 : decode cL_changes 259 = .ok (.istore 5, 2) := by decide +kernel
theorem dL_changes_261 : decode cL_changes 261 = .ok (.aload_n 1, 1) := by decide +kernel
theorem dL_changes_262 : decode cL_changes 262 = .ok (.getfield 59, 3) := by decide +kernel
theorem dL_changes_265 : decode cL_changes 265 = .ok (.iload_n 3, 1) := by decide +kernel
theorem dL_changes_266 : decode cL_changes 266 = .ok (.iload 4, 2) := by decide +kernel
theorem dL_changes_268 : decode cL_changes 268 = .ok (.iastore, 1) := by decide +kernel
theorem dL_changes_269 : decode cL_changes 269 = .ok (.aload_n 0, 1) := by decide +kernel
theorem dL_changes_270 : decode cL_changes 270 = .ok (.iload_n 3, 1) := by decide +kernel
theorem dL_changes_271 : decode cL_changes 271 = .ok (.iload 4, 2) := by decide +kernel
theorem dL_changes_273 : decode cL_changes 273 = .ok (.invokevirtual 198, 3) := by decide +kernel
theorem dL_changes_276 : decode cL_changes 276 = .ok (.iload 5, 2) := by decide +kernel
theorem dL_changes_278 : decode cL_changes 278 = .ok (.if_icmp .ne 7, 3) := by decide +kernel
theorem dL_changes_281 : decode cL_changes 281 = .ok (.iconst 1, 1) := by decide +kernel
theorem dL_changes_282 : decode cL_changes 282 = .ok (.goto 4, 3) := by decide +kernel
theorem dL_changes_285 : decode cL_changes 285 = .ok (.iconst 0, 1) := by decide +kernel
theorem dL_changes_286 : decode cL_changes 286 = .ok (.ireturn, 1) := by decide +kernel
theorem dL_changes_287 : decode cL_changes 287 = .ok (.aload_n 0, 1) := by decide +kernel
theorem dL_changes_288 : decode cL_changes 288 = .ok (.iload_n 3, 1) := by decide +kernel
theorem dL_changes_289 : decode cL_changes 289 = .ok (.iload 4, 2) := by decide +kernel
theorem dL_changes_291 : decode cL_changes 291 = .ok (.invokestatic 201, 3) := by decide +kernel
theorem dL_changes_294 : decode cL_changes 294 = .ok (.bipush 50, 2) := by decide +kernel
theorem dL_changes_296 : decode cL_changes 296 = .ok (.if_icmp .lt 7, 3) := by decide +kernel
theorem dL_changes_299 : decode cL_changes 299 = .ok (.iconst 1, 1) := by decide +kernel
theorem dL_changes_300 : decode cL_changes 300 = .ok (.goto 4, 3) := by decide +kernel
theorem dL_changes_303 : decode cL_changes 303 = .ok (.iconst 0, 1) := by decide +kernel
theorem dL_changes_304 : decode cL_changes 304 = .ok (.istore 5, 2) := by decide +kernel
theorem dL_changes_306 : decode cL_changes 306 = .ok (.aload_n 0, 1) := by decide +kernel
theorem dL_changes_307 : decode cL_changes 307 = .ok (.iload_n 3, 1) := by decide +kernel
theorem dL_changes_308 : decode cL_changes 308 = .ok (.iload 4, 2) := by decide +kernel
theorem dL_changes_310 : decode cL_changes 310 = .ok (.invokestatic 204, 3) := by decide +kernel
theorem dL_changes_313 : decode cL_changes 313 = .ok (.istore 6, 2) := by decide +kernel
theorem dL_changes_315 : decode cL_changes 315 = .ok (.iload 5, 2) := by decide +kernel
theorem dL_changes_317 : decode cL_changes 317 = .ok (.ifCond .eq 18, 3) := by decide +kernel
theorem dL_changes_320 : decode cL_changes 320 = .ok (.iload 6, 2) := by decide +kernel
theorem dL_changes_322 : decode cL_changes 322 = .ok (.bipush (-2), 2) := by decide +kernel
theorem dL_changes_324 : decode cL_changes 324 = .ok (.if_icmp .ne 7, 3) := by decide +kernel
theorem dL_changes_327 : decode cL_changes 327 = .ok (.iconst 1, 1) := by decide +kernel
theorem dL_changes_328 : decode cL_changes 328 = .ok (.goto 50, 3) := by decide +kernel
theorem dL_changes_331 : decode cL_changes 331 = .ok (.iconst 0, 1) := by decide +kernel
theorem dL_changes_332 : decode cL_changes 332 = .ok (.goto 46, 3) := by decide +kernel
theorem dL_changes_335 : decode cL_changes 335 = .ok (.iload 6, 2) := by decide +kernel
theorem dL_changes_337 : decode cL_changes 337 = .ok (.bipush (-3), 2) := by decide +kernel
theorem dL_changes_339 : decode cL_changes 339 = .ok (.if_icmp .eq 34, 3) := by decide +kernel
theorem dL_changes_342 : decode cL_changes 342 = .ok (.iload 6, 2) := by decide +kernel
theorem dL_changes_344 : decode cL_changes 344 = .ok (.aload_n 1, 1) := by decide +kernel
theorem dL_changes_345 : decode cL_changes 345 = .ok (.getfield 40, 3) := by decide +kernel
theorem dL_changes_348 : decode cL_changes 348 = .ok (.iload 4, 2) := by decide +kernel
theorem dL_changes_350 : decode cL_changes 350 = .ok (.iaload, 1) := by decide +kernel
theorem dL_changes_351 : decode cL_changes 351 = .ok (.if_icmp .lt 26, 3) := by decide +kernel
theorem dL_changes_354 : decode cL_changes 354 = .ok (.iload 6, 2) := by decide +kernel
theorem dL_changes_356 : decode cL_changes 356 = .ok (.bipush 12, 2) := by decide +kernel
theorem dL_changes_358 : decode cL_changes 358 = .ok (.if_icmp .gt 19, 3) := by decide +kernel
theorem dL_changes_361 : decode cL_changes 361 = .ok (.aload_n 0, 1) := by decide +kernel
theorem dL_changes_362 : decode cL_changes 362 = .ok (.iload_n 3, 1) := by decide +kernel
theorem dL_changes_363 : decode cL_changes 363 = .ok (.iload 4, 2) := by decide +kernel
theorem dL_changes_365 : decode cL_changes 365 = .ok (.invokestatic 201, 3) := by decide +kernel
theorem dL_changes_368 : decode cL_changes 368 = .ok (.bipush 50, 2) := by decide +kernel
theorem dL_changes_370 : decode cL_changes 370 = .ok (.if_icmp .ne 7, 3) := by decide +kernel
theorem dL_changes_373 : decode cL_changes 373 = .ok (.iconst 1, 1) := by decide +kernel
theorem dL_changes_374 : decode cL_changes 374 = .ok (.goto 4, 3) := by decide +kernel
theorem dL_changes_377 : decode cL_changes 377 = .ok (.iconst 0, 1) := by decide +kernel
theorem dL_changes_378 : decode cL_changes 378 = .ok (.ireturn, 1) := by decide +kernel
end
section
theorem dL_law_0 : decode cL_law 0 = .ok (.new 10, 3) := by decide +kernel
theorem dL_law_3 : decode cL_law 3 = .ok (.dup, 1) := by decide +kernel
theorem dL_law_4 : decode cL_law 4 = .ok (.invokespecial 206, 3) := by decide +kernel
theorem dL_law_7 : decode cL_law 7 = .ok (.astore_n 1, 1) := by decide +kernel
theorem dL_law_8 : decode cL_law 8 = .ok (.aload_n 1, 1) := by decide +kernel
theorem dL_law_9 : decode cL_law 9 = .ok (.aload_n 0, 1) := by decide +kernel
theorem dL_law_10 : decode cL_law 10 = .ok (.invokestatic 207, 3) := by decide +kernel
theorem dL_law_13 : decode cL_law 13 = .ok (.astore_n 2, 1) := by decide +kernel
theorem dL_law_14 : decode cL_law 14 = .ok (.aload_n 2, 1) := by decide +kernel
theorem dL_law_15 : decode cL_law 15 = .ok (.ifnull 17, 3) := by decide +kernel
theorem dL_law_18 : decode cL_law 18 = .ok (.aload_n 1, 1) := by decide +kernel
theorem dL_law_19 : decode cL_law 19 = .ok (.aload_n 2, 1) := by decide +kernel
theorem dL_law_20 : decode cL_law 20 = .ok (.aload_n 0, 1) := by decide +kernel
theorem dL_law_21 : decode cL_law 21 = .ok (.bipush 15, 2) := by decide +kernel
theorem dL_law_23 : decode cL_law 23 = .ok (.invokestatic 44, 3) := by decide +kernel
theorem dL_law_26 : decode cL_law 26 = .ok (.invokestatic 211, 3) := by decide +kernel
theorem dL_law_29 : decode cL_law 29 = .ok (.ifCond .ne 5, 3) := by decide +kernel
theorem dL_law_32 : decode cL_law 32 = .ok (.iconst 0, 1) := by decide +kernel
theorem dL_law_33 : decode cL_law 33 = .ok (.ireturn, 1) := by decide +kernel
theorem dL_law_34 : decode cL_law 34 = .ok (.iconst 0, 1) := by decide +kernel
theorem dL_law_35 : decode cL_law 35 = .ok (.istore_n 3, 1) := by decide +kernel
theorem dL_law_36 : decode cL_law 36 = .ok (.iload_n 3, 1) := by decide +kernel
theorem dL_law_37 : decode cL_law 37 = .ok (.bipush 22, 2) := by decide +kernel
theorem dL_law_39 : decode cL_law 39 = .ok (.if_icmp .ge 162, 3) := by decide +kernel
theorem dL_law_42 : decode cL_law 42 = .ok (.aload_n 0, 1) := by decide +kernel
theorem dL_law_43 : decode cL_law 43 = .ok (.bipush 16, 2) := by decide +kernel
theorem dL_law_45 : decode cL_law 45 = .ok (.iload_n 3, 1) := by decide +kernel
theorem dL_law_46 : decode cL_law 46 = .ok (.iadd, 1) := by decide +kernel
theorem dL_law_47 : decode cL_law 47 = .ok (.invokestatic 44, 3) := by decide +kernel
theorem dL_law_50 : decode cL_law 50 = .ok (.istore 4, 2) := by decide +kernel
theorem dL_law_52 : decode cL_law 52 = .ok (.iload 4, 2) := by decide +kernel
theorem dL_law_54 : decode cL_law 54 = .ok (.bipush 8, 2) := by decide +kernel
theorem dL_law_56 : decode cL_law 56 = .ok (.invokestatic 50, 3) := by decide +kernel
theorem dL_law_59 : decode cL_law 59 = .ok (.tableswitch 105 0 5 #[37, 37, 37, 37, 64, 91], 37) := by decide +kernel
theorem dL_law_96 : decode cL_law 96 = .ok (.aload_n 1, 1) := by decide +kernel
theorem dL_law_97 : decode cL_law 97 = .ok (.aload_n 2, 1) := by decide +kernel
theorem dL_law_98 : decode cL_law 98 = .ok (.iload 4, 2) := by decide +kernel
theorem dL_law_100 : decode cL_law 100 = .ok (.iconst 3, 1) := by decide +kernel
theorem dL_law_101 : decode cL_law 101 = .ok (.ishr, 1) := by decide +kernel
theorem dL_law_102 : decode cL_law 102 = .ok (.iconst 5, 1) := by decide +kernel
theorem dL_law_103 : decode cL_law 103 = .ok (.invokestatic 50, 3) := by decide +kernel
theorem dL_law_106 : decode cL_law 106 = .ok (.iload 4, 2) := by decide +kernel
theorem dL_law_108 : decode cL_law 108 = .ok (.bipush 6, 2) := by decide +kernel
theorem dL_law_110 : decode cL_law 110 = .ok (.ishr, 1) := by decide +kernel
theorem dL_law_111 : decode cL_law 111 = .ok (.iconst 5, 1) := by decide +kernel
theorem dL_law_112 : decode cL_law 112 = .ok (.invokestatic 50, 3) := by decide +kernel
theorem dL_law_115 : decode cL_law 115 = .ok (.invokestatic 215, 3) := by decide +kernel
theorem dL_law_118 : decode cL_law 118 = .ok (.istore 5, 2) := by decide +kernel
theorem dL_law_120 : decode cL_law 120 = .ok (.goto 55, 3) := by decide +kernel
theorem dL_law_123 : decode cL_law 123 = .ok (.aload_n 1, 1) := by decide +kernel
theorem dL_law_124 : decode cL_law 124 = .ok (.aload_n 2, 1) := by decide +kernel
theorem dL_law_125 : decode cL_law 125 = .ok (.iload 4, 2) := by decide +kernel
theorem dL_law_127 : decode cL_law 127 = .ok (.iconst 3, 1) := by decide +kernel
theorem dL_law_128 : decode cL_law 128 = .ok (.ishr, 1) := by decide +kernel
theorem dL_law_129 : decode cL_law 129 = .ok (.iconst 5, 1) := by decide +kernel
theorem dL_law_130 : decode cL_law 130 = .ok (.invokestatic 50, 3) := by decide +kernel
theorem dL_law_133 : decode cL_law 133 = .ok (.iload 4, 2) := by decide +kernel
theorem dL_law_135 : decode cL_law 135 = .ok (.bipush 6, 2) := by decide +kernel
theorem dL_law_137 : decode cL_law 137 = .ok (.ishr, 1) := by decide +kernel
theorem dL_law_138 : decode cL_law 138 = .ok (.iconst 5, 1) := by decide +kernel
theorem dL_law_139 : decode cL_law 139 = .ok (.invokestatic 50, 3) := by decide +kernel
theorem dL_law_142 : decode cL_law 142 = .ok (.invokestatic 219, 3) := by decide +kernel
theorem dL_law_145 : decode cL_law 145 = .ok (.istore 5, 2) := by decide +kernel
theorem dL_law_147 : decode cL_law 147 = .ok (.goto 28, 3) := by decide +kernel
theorem dL_law_150 : decode cL_law 150 = .ok (.aload_n 1, 1) := by decide +kernel
theorem dL_law_151 : decode cL_law 151 = .ok (.aload_n 2, 1) := by decide +kernel
theorem dL_law_152 : decode cL_law 152 = .ok (.iload 4, 2) := by decide +kernel
theorem dL_law_154 : decode cL_law 154 = .ok (.iconst 3, 1) := by decide +kernel
theorem dL_law_155 : decode cL_law 155 = .ok (.ishr, 1) := by decide +kernel
theorem dL_law_156 : decode cL_law 156 = .ok (.invokestatic 222, 3) := by decide +kernel
theorem dL_law_159 : decode cL_law 159 = .ok (.istore 5, 2) := by decide +kernel
theorem dL_law_161 : decode cL_law 161 = .ok (.goto 14, 3) := by decide +kernel
theorem dL_law_164 : decode cL_law 164 = .ok (.aload_n 1, 1) := by decide +kernel
theorem dL_law_165 : decode cL_law 165 = .ok (.aload_n 2, 1) := by decide +kernel
theorem dL_law_166 : decode cL_law 166 = .ok (.iload 4, 2) := by decide +kernel
theorem dL_law_168 : decode cL_law 168 = .ok (.iconst 3, 1) := by decide +kernel
theorem dL_law_169 : decode cL_law 169 = .ok (.ishr, 1) := by decide +kernel
theorem dL_law_170 : decode cL_law 170 = .ok (.invokestatic 225, 3) := by decide +kernel
theorem dL_law_173 : decode cL_law 173 = .ok (.istore 5, 2) := by decide +kernel
theorem dL_law_175 : decode cL_law 175 = .ok (.iload 5, 2) := by decide +kernel
theorem dL_law_177 : decode cL_law 177 = .ok (.ifCond .eq 16, 3) := by decide +kernel
theorem dL_law_180 : decode cL_law 180 = .ok (.aload_n 1, 1) := by decide +kernel
theorem dL_law_181 : decode cL_law 181 = .ok (.aload_n 2, 1) := by decide +kernel
theorem dL_law_182 : decode cL_law 182 = .ok (.iload 4, 2) := by decide +kernel
theorem dL_law_184 : decode cL_law 184 = .ok (.bipush 9, 2) := by decide +kernel
theorem dL_law_186 : decode cL_law 186 = .ok (.ishr, 1) := by decide +kernel
theorem dL_law_187 : decode cL_law 187 = .ok (.invokestatic 211, 3) := by decide +kernel
theorem dL_law_190 : decode cL_law 190 = .ok (.ifCond .ne 5, 3) := by decide +kernel
theorem dL_law_193 : decode cL_law 193 = .ok (.iconst 0, 1) := by decide +kernel
theorem dL_law_194 : decode cL_law 194 = .ok (.ireturn, 1) := by decide +kernel
theorem dL_law_195 : decode cL_law 195 = .ok (.iinc 3 1, 3) := by decide +kernel
theorem dL_law_198 : decode cL_law 198 = .ok (.goto (-162), 3) := by decide +kernel
theorem dL_law_201 : decode cL_law 201 = .ok (.aload_n 1, 1) := by decide +kernel
theorem dL_law_202 : decode cL_law 202 = .ok (.invokevirtual 228, 3) := by decide +kernel
theorem dL_law_205 : decode cL_law 205 = .ok (.ireturn, 1) := by decide +kernel
end
section
/-! THE FRAME: a walk judgement 'Ev' over an own picture of the heap (addresses to cells), with the machine hidden in it. -/
/-- launch, the law's entry state, class ids, slots, array class ids, the list's empty array, the mirror of Object[] -/
abbrev Gt : Type := Launch × State × (Nat → ClassId) × (Nat → Nat → Nat) × (Nat → ClassId) × Nat × Nat × Nat × Nat × (Nat → Int32)
abbrev gL (g : Gt) : Launch := g.1
abbrev gS (g : Gt) : State := g.2.1
abbrev gB (g : Gt) : Nat := g.2.1.heap.size
abbrev gD (g : Gt) : va_G := (g.2.2.1, g.2.2.2.1)
abbrev gA (g : Gt) : Nat → ClassId := g.2.2.2.2.1
abbrev gE (g : Gt) : Nat := g.2.2.2.2.2.1
abbrev gM (g : Gt) : Nat := g.2.2.2.2.2.2.1
/-- the script: its cell, its length, its ints -/
abbrev gX (g : Gt) : Nat × Nat × (Nat → Int32) := g.2.2.2.2.2.2.2
/-- the array kinds: 0 int, 1 boolean, 2 char, 3 Object, 4 int[] -/
abbrev gT (g : Gt) : List (ClassId × FieldType) := [(gA g 0, .int), (gA g 1, .boolean), (gA g 2, .char), (gA g 3, .object "java/lang/Object"), (gA g 4, .array .int)]
abbrev AC : Type := (Nat × vp_A) ⊕ (Nat × List Value)
abbrev AH : Type := Nat → Option AC
def cvA (g : Gt) : AC → va_E
  | .inl q => .inl (gA g q.1, q.2)
  | .inr o => .inr o
def HR (g : Gt) (h : AH) (H : Heap) : Prop := ∀ a c, h a = some c → va_at (gD g) vwCl (a, cvA g c) H
abbrev gF (g : Gt) : Nat → Prop := fun q => gB g ≤ q
/-- method: name, code, locals, return type, handlers -/
abbrev Mt : Type := MethodName × ByteArray × Nat × Option FieldType × List (Nat × Nat × Nat × Nat)
abbrev mY (M : Mt) : MethodName := M.1
abbrev mC (M : Mt) : ByteArray := M.2.1
abbrev mL (M : Mt) : Nat := M.2.2.1
abbrev mR (M : Mt) : Option FieldType := M.2.2.2.1
abbrev mH (M : Mt) : List (Nat × Nat × Nat × Nat) := M.2.2.2.2
/-- the words of the tables that stay true as entries are resolved -/
def pw (w : Cond) : Bool := goodWord w || (match w with
  | .castable _ _ => true
  | .declares _ => true
  | .methodLinkNest _ _ _ _ => true
  | _ => false)
def mW (M : Mt) : Cond := match mH M with
  | [] => .code (mY M) (mC M) (mL M) (mR M)
  | hh => .codeWith (mY M) (mC M) (mL M) (mR M) hh
abbrev mWs (M : Mt) : List Cond := [mW M]
def lw_strs : List (String × Nat × String) := [("Prereqs", 65, "credits or seats are out of range"), ("Prereqs", 76, "there are as many courses as there can be"), ("Prereqs", 395, "the major is out of range"), ("Prereqs", 91, "there are as many students as there can be"), ("Prereqs", 401, "there is no such course"), ("Prereqs", 397, "the mark is out of range"), ("Prereqs", 408, "there are too many formulas, or this one is too deep"), ("Prereqs", 139, "the credits are out of range"), ("Prereqs", 403, "there is no such formula"), ("Prereqs", 399, "there is no such student"), ("Prereqs", 303, "there is no best mark"), ("Prereqs", 318, "the student is not waiting"), ("Prereqs", 195, "the days of enrollment are over"), ("Prereqs", 197, "the student is enrolled or waiting"), ("Prereqs", 201, "the requisite or the attempts forbid it"), ("Prereqs", 206, "the load would be too great"), ("Prereqs", 211, "there is neither a seat nor a place to wait"), ("Prereqs", 224, "the student is neither enrolled nor waiting"), ("Prereqs", 226, "the days of drops are over"), ("Prereqs", 178, "at least one day must pass"), ("Prereqs", 183, "the term has too few days"), ("Prereqs", 269, "the student is not enrolled"), ("Prereqs", 271, "the days of marks have not come"), ("Prereqs", 108, "there is no such number of seats"), ("Prereqs", 119, "the course has too few seats"), ("Prereqs", 287, "the student has passed the course"), ("Prereqs", 295, "too many credits would be moved in")]
def lw_ncs : List (String × String) := [("java/lang/IllegalStateException", "java/lang/IllegalArgumentException"), ("java/lang/IndexOutOfBoundsException", "java/lang/IllegalArgumentException"), ("java/util/NoSuchElementException", "java/lang/IllegalArgumentException"), ("java/lang/ArithmeticException", "java/lang/IllegalArgumentException"), ("java/lang/UnsupportedOperationException", "java/lang/IllegalArgumentException"), ("java/lang/IllegalArgumentException", "java/lang/IllegalStateException"), ("java/lang/IndexOutOfBoundsException", "java/lang/IllegalStateException"), ("java/util/NoSuchElementException", "java/lang/IllegalStateException"), ("java/lang/ArithmeticException", "java/lang/IllegalStateException"), ("java/lang/UnsupportedOperationException", "java/lang/IllegalStateException"), ("java/lang/IllegalArgumentException", "java/lang/IndexOutOfBoundsException"), ("java/lang/IllegalStateException", "java/lang/IndexOutOfBoundsException"), ("java/util/NoSuchElementException", "java/lang/IndexOutOfBoundsException"), ("java/lang/ArithmeticException", "java/lang/IndexOutOfBoundsException"), ("java/lang/UnsupportedOperationException", "java/lang/IndexOutOfBoundsException"), ("java/lang/IllegalArgumentException", "java/util/NoSuchElementException"), ("java/lang/IllegalStateException", "java/util/NoSuchElementException"), ("java/lang/IndexOutOfBoundsException", "java/util/NoSuchElementException"), ("java/lang/ArithmeticException", "java/util/NoSuchElementException"), ("java/lang/UnsupportedOperationException", "java/util/NoSuchElementException"), ("java/lang/IllegalArgumentException", "java/lang/UnsupportedOperationException"), ("java/lang/IllegalStateException", "java/lang/UnsupportedOperationException"), ("java/lang/IndexOutOfBoundsException", "java/lang/UnsupportedOperationException"), ("java/util/NoSuchElementException", "java/lang/UnsupportedOperationException"), ("java/lang/ArithmeticException", "java/lang/UnsupportedOperationException"), ("java/lang/IllegalArgumentException", "java/lang/ArithmeticException"), ("java/lang/IllegalStateException", "java/lang/ArithmeticException"), ("java/lang/IndexOutOfBoundsException", "java/lang/ArithmeticException"), ("java/util/NoSuchElementException", "java/lang/ArithmeticException"), ("java/lang/UnsupportedOperationException", "java/lang/ArithmeticException")]
def AWd (U : State) : Prop := ∀ w ∈ lw_tbl, pw w = true → w.before #[] U = true
theorem va_AOA.moved {t : FieldType} {u U : State} (hvm : u.vm.Alike U.vm) (h : va_AOA t u) : va_AOA t U := by
  have h0 : (Cond.arrayOver (.array t)).holds #[] u none u [] = true := h
  simp only [Cond.holds, Cond.value, beq_iff_eq] at h0
  cases hc : u.vm.findClass (FieldType.array t).toString with
  | none => simp [hc] at h0
  | some comp =>
    simp only [hc, Option.bind_some, Option.bind_eq_some_iff, Option.map_eq_some_iff] at h0
    obtain ⟨c, hi0, k, hk, hb⟩ := h0
    obtain ⟨k', hk', he⟩ := hvm.2.2 _ _ hk
    have hi : (U.vm.classes.findIdx? fun (x : Class) => match x.kind with | .array component _ => component == comp | _ => false) = some c := by
      have e1 := va_idx_bare U.vm comp
      rw [hvm.bare_eq] at e1
      exact (e1.symm.trans (va_idx_bare u.vm comp)).trans hi0
    have hkind : k'.kind = k.kind := by rw [he]
    have f1 : U.vm.findClass (FieldType.array t).toString = some comp := by rw [hvm.findClass]; exact hc
    show (Cond.arrayOver (.array t)).holds #[] U none U [] = true
    simp only [Cond.holds, Cond.value, beq_iff_eq]
    rw [f1, Option.bind_some]
    refine (congrArg (fun o : Option Nat => o.bind _) hi).trans ?_
    rw [Option.bind_some, hk', Option.map_some, hkind, hvm.findClass]
    exact congrArg some hb
/-- what holds at every state of a run: classes and arrays; the tables' words; no traces; two statics of Throwable; the constant texts; the list's empty array; and what was there before is there -/
def CTX (g : Gt) (U : State) : Prop := (va_K (gD g) vwCl (gT g) U ∧ AWd U ∧ (gL g).stackTraces = false ∧
  vx_Zq Bundle.tN "UNASSIGNED_STACK" Bundle.steD (gF g) U U.heap ∧ vx_Zq Bundle.tN "SUPPRESSED_SENTINEL" Bundle.listD (gF g) U U.heap ∧ (∀ q ∈ lw_strs, ∃ sa, vk_R q.1 q.2.1 q.2.2 sa U) ∧
  va_Z "java/util/ArrayList" "DEFAULTCAPACITY_EMPTY_ELEMENTDATA" "[Ljava/lang/Object;" (.ref (gE g)) (gF g) U U.heap ∧ va_T (.object "java/lang/Object") (gE g) 0 (fun _ => .null) (gF g) U U.heap ∧ va_Mi "[Ljava/lang/Object;" (gM g) U ∧ (∀ q ∈ lw_ncs, va_Nc q.1 q.2 U) ∧ va_AO "java/lang/Object" U ∧ va_AOA .int U) ∧
  gB g ≤ U.heap.size ∧ (∀ a, a < gB g → U.heap[a]? = (gS g).heap[a]?) ∧ va_X (gX g).1 (gX g).2.1 (gX g).2.2 U U.heap ∧ (gX g).1 < gB g
abbrev RT : Type := Option Value ⊕ String
def QcO (g : Gt) (Q : RT → AH → Prop) : Array Value → State → Outcome → State → Prop := fun _ st o t => (∃ v h', o = .returned v ∧ Q (.inl v) h' ∧ HR g h' t.heap) ∧ va_F (gF g) st t
def XcO (g : Gt) (Q : RT → AH → Prop) : String → State → State → Prop := fun E st t => (∃ h', Q (.inr E) h' ∧ HR g h' t.heap) ∧ va_F (gF g) st t
abbrev rmD (d mc ms : Nat) : Room := { frames := d, cells := mc, slots := ms, locals := 46 * d }
def ldL (ls : List (Option Value)) (i : Nat) : Option Value := match ls[i]? with
  | some (some v) => some v
  | _ => none
def LX (lsA : Array Slot) (n : Nat) (ls : List (Option Value)) : Prop := lsA.size = n ∧ lv_wf lsA ∧ ∀ i v, ldL ls i = some v → lsA[i]? = some (.val v)
def MX (g : Gt) (M : Mt) (p : Program) (s : State) (m : MethodId) (args : Array Value) (meth : Method) (c : Code) : Prop :=
  p.tables.exec = Jvm.exec ∧ c.code = mC M ∧ meth.sig.returnType = mR M ∧ s.vm.findClass (mY M).cls = some m.cls ∧ c.maxLocals = mL M ∧ meth.locks = false ∧ meth.name = (mY M).name ∧ c.exceptionTable.toList = tableOf (mH M) ∧ CTX g s
def SX (g : Gt) (h : AH) (s : State) (H : Heap) (locs : List Loc) : Prop := HR g h H ∧ va_S (gF g) s.heap H locs
/-- THE JUDGEMENT: the method M at pc, with these locals and stack over the heap h, ends with Q; at most mc cells of ms slots come -/
def Ev (g : Gt) (M : Mt) (d pc : Nat) (ls : List (Option Value)) (st : List Value) (h : AH) (mc ms : Nat) (Q : RT → AH → Prop) : Prop :=
  ∀ (p : Program) (e : Env) (s : State) (m : MethodId) (args : Array Value) (below : List Frame) (meth : Method) (c : Code) (H : Heap) (locs : List Loc) (cells slots : Nat) (lsA : Array Slot) (tc ts : Nat),
    MX g M p s m args meth c → SX g h s H locs → LX lsA (mL M) ls → cells + mc ≤ tc → slots + ms ≤ ts →
    W p (gL g) e (rmD d tc ts) s m args below meth c H locs cells slots (vx_MQ below (QcO g Q) (XcO g Q) args s tc ts (gF g)) (F0 m pc lsA st)
/-- a contract that may throw; and one that doesn't -/
def Ct (g : Gt) (M : Mt) (d : Nat) (av : List Value) (h : AH) (mc ms : Nat) (Q : RT → AH → Prop) : Prop :=
  vx_Met (gL g) (mY M) (mWs M) (rmD d mc ms) (fun a U => a = av.toArray ∧ CTX g U ∧ HR g h U.heap) (QcO g Q) (XcO g Q) mc ms (gF g)
def Cn (g : Gt) (M : Mt) (d : Nat) (av : List Value) (h : AH) (mc ms : Nat) (Q : RT → AH → Prop) : Prop :=
  Met (gL g) (mY M) (mWs M) (rmD d mc ms) (fun a U => a = av.toArray ∧ CTX g U ∧ HR g h U.heap) (QcO g Q) mc ms (gF g)
theorem ldL_nil (i : Nat) : ldL [] i = none := by simp [ldL]
theorem ldL_0 (o : Option Value) (t : List (Option Value)) : ldL (o :: t) 0 = o := by cases o <;> simp [ldL]
theorem ldL_s (o : Option Value) (t : List (Option Value)) (i : Nat) : ldL (o :: t) (i + 1) = ldL t i := by simp [ldL]
def enL : Nat → List (Option Value) → List (Nat × Value)
  | _, [] => []
  | k, some v :: t => (k, v) :: enL (k + 1) t
  | k, none :: t => enL (k + 1) t
theorem enL_mem : ∀ (ls : List (Option Value)) (k i : Nat) (v : Value), ldL ls i = some v → (k + i, v) ∈ enL k ls
  | [], k, i, v, h => by simp [ldL] at h
  | o :: t, k, 0, v, h => by
    rw [ldL_0] at h
    subst h
    simp [enL]
  | o :: t, k, i + 1, v, h => by
    rw [ldL_s] at h
    have ih := enL_mem t (k + 1) i v h
    rw [show k + 1 + i = k + (i + 1) by omega] at ih
    cases o with
    | none => exact ih
    | some w => exact List.mem_cons_of_mem _ ih
theorem enL_of : ∀ (ls : List (Option Value)) (k : Nat) (q : Nat × Value), q ∈ enL k ls → ∃ i, q.1 = k + i ∧ ldL ls i = some q.2
  | [], k, q, h => by simp [enL] at h
  | none :: t, k, q, h => by
    obtain ⟨i, e1, e2⟩ := enL_of t (k + 1) q h
    exact ⟨i + 1, by omega, by rw [ldL_s]; exact e2⟩
  | some w :: t, k, q, h => by
    rcases List.mem_cons.mp h with h | h
    · subst h
      exact ⟨0, rfl, ldL_0 _ _⟩
    · obtain ⟨i, e1, e2⟩ := enL_of t (k + 1) q h
      exact ⟨i + 1, by omega, by rw [ldL_s]; exact e2⟩
theorem LX.has {lsA : Array Slot} {n : Nat} {ls : List (Option Value)} (h : LX lsA n ls) : lv_has lsA n (enL 0 ls) := by
  refine ⟨h.1, h.2.1, fun q hq => ?_⟩
  obtain ⟨i, e1, e2⟩ := enL_of ls 0 q hq
  rw [Nat.zero_add] at e1
  rw [e1]
  exact h.2.2 i _ e2
def ca2 : Option Value → Bool
  | some v => v.category == 2
  | none => false
/-- a store: at i the value; what was a half of another value is gone -/
def stG (i : Nat) (v : Value) : Nat → List (Option Value) → List (Option Value)
  | _, [] => []
  | k, o :: t => (if k = i then some v else if (k + 1 = i ∧ ca2 o = true) ∨ (k = i + 1 ∧ v.category = 2) then none else o) :: stG i v (k + 1) t
abbrev stL (ls : List (Option Value)) (i : Nat) (v : Value) : List (Option Value) := stG i v 0 ls
theorem stG_ld (i : Nat) (v : Value) : ∀ (ls : List (Option Value)) (k j : Nat) (w : Value), ldL (stG i v k ls) j = some w → (k + j = i ∧ w = v) ∨ (k + j ≠ i ∧ ldL ls j = some w ∧ ¬ (k + j + 1 = i ∧ w.category = 2) ∧ ¬ (k + j = i + 1 ∧ v.category = 2))
  | [], k, j, w, h => by simp [stG, ldL] at h
  | o :: t, k, 0, w, h => by
    rw [stG, ldL_0] at h
    rw [ldL_0]
    by_cases c1 : k = i
    · rw [if_pos c1] at h
      exact Or.inl ⟨c1, (Option.some.inj h).symm⟩
    · rw [if_neg c1] at h
      by_cases c2 : (k + 1 = i ∧ ca2 o = true) ∨ (k = i + 1 ∧ v.category = 2)
      · rw [if_pos c2] at h
        cases h
      · rw [if_neg c2] at h
        subst h
        exact Or.inr ⟨c1, rfl, fun z => c2 (Or.inl ⟨z.1, by simp [ca2, z.2]⟩), fun z => c2 (Or.inr ⟨z.1, z.2⟩)⟩
  | o :: t, k, j + 1, w, h => by
    rw [stG, ldL_s] at h
    rw [ldL_s]
    have ih := stG_ld i v t (k + 1) j w h
    rwa [show k + 1 + j = k + (j + 1) by omega] at ih
theorem LX.st1 {ls' : Array Slot} {n : Nat} {ls : List (Option Value)} {i : Nat} {v : Value} (hc : v.category = 1) (h : lv_has ls' n ((i, v) :: (enL 0 ls).filter (fun q => !(q.1 == i) && !(q.1 + 1 == i && q.2.category == 2)))) : LX ls' n (stL ls i v) := by
  refine ⟨h.1, h.2.1, fun j w hj => ?_⟩
  rcases stG_ld i v ls 0 j w hj with ⟨e1, e2⟩ | ⟨e1, e2, e3, -⟩
  · rw [Nat.zero_add] at e1
    subst e1 e2
    exact h.2.2 _ List.mem_cons_self
  · rw [Nat.zero_add] at e1 e3
    refine h.2.2 (j, w) (List.mem_cons_of_mem _ (List.mem_filter.mpr ⟨?_, ?_⟩))
    · have := enL_mem ls 0 j w e2
      rwa [Nat.zero_add] at this
    · simp only [Bool.and_eq_true, Bool.not_eq_true', beq_eq_false_iff_ne, Bool.and_eq_false_iff, ne_eq]
      refine ⟨e1, ?_⟩
      by_cases c : j + 1 = i
      · exact Or.inr (fun z => e3 ⟨c, z⟩)
      · exact Or.inl c
theorem LX.st2 {ls' : Array Slot} {n : Nat} {ls : List (Option Value)} {i : Nat} {v : Value} (hc : v.category = 2) (h : lv_has ls' n ((i, v) :: (enL 0 ls).filter (fun q => !(q.1 == i) && (!(q.1 == i + 1) && !(q.1 + 1 == i && q.2.category == 2))))) : LX ls' n (stL ls i v) := by
  refine ⟨h.1, h.2.1, fun j w hj => ?_⟩
  rcases stG_ld i v ls 0 j w hj with ⟨e1, e2⟩ | ⟨e1, e2, e3, e4⟩
  · rw [Nat.zero_add] at e1
    subst e1 e2
    exact h.2.2 _ List.mem_cons_self
  · rw [Nat.zero_add] at e1 e3 e4
    refine h.2.2 (j, w) (List.mem_cons_of_mem _ (List.mem_filter.mpr ⟨?_, ?_⟩))
    · have := enL_mem ls 0 j w e2
      rwa [Nat.zero_add] at this
    · simp only [Bool.and_eq_true, Bool.not_eq_true', beq_eq_false_iff_ne, Bool.and_eq_false_iff, ne_eq]
      refine ⟨e1, fun z => e4 ⟨z, hc⟩, ?_⟩
      by_cases c : j + 1 = i
      · exact Or.inr (fun z => e3 ⟨c, z⟩)
      · exact Or.inl c
theorem LX.weaken {ls' : Array Slot} {n : Nat} {ls ls2 : List (Option Value)} (h : LX ls' n ls) (k : ∀ i v, ldL ls2 i = some v → ldL ls i = some v) : LX ls' n ls2 := ⟨h.1, h.2.1, fun i v z => h.2.2 i v (k i v z)⟩
theorem stG_far (i : Nat) (v : Value) : ∀ (t : List (Option Value)) (k : Nat), i < k → (k = i + 1 → ¬ v.category = 2) → stG i v k t = t
  | [], _, _, _ => rfl
  | o :: t, k, h1, h2 => by
    rw [stG, if_neg (by omega), if_neg (by rintro (⟨z, -⟩ | ⟨z, z2⟩); omega; exact h2 z z2), stG_far i v t (k + 1) (by omega) (by omega)]
section EVL
variable {g : Gt} {M : Mt} {d pc : Nat} {ls : List (Option Value)} {st : List Value} {h : AH} {mc ms : Nat} {Q : RT → AH → Prop}
theorem ev_iadd {x y : Int32} (n : Nat) (hd : decode (mC M) pc = .ok (.iadd, 1)) (hn : pc + 1 = n) (k : Ev g M d n ls (.int (x + y) :: st) h mc ms Q) : Ev g M d pc ls (.int y :: .int x :: st) h mc ms Q := by
  subst hn
  intro p e s m args below meth c H locs cells slots lsA tc ts hM hS hL h1 h2
  exact lv_iadd hM.1 hM.2.1 hd (k p e s m args below meth c H locs cells slots lsA tc ts hM hS hL h1 h2)
theorem ev_isub {x y : Int32} (n : Nat) (hd : decode (mC M) pc = .ok (.isub, 1)) (hn : pc + 1 = n) (k : Ev g M d n ls (.int (x - y) :: st) h mc ms Q) : Ev g M d pc ls (.int y :: .int x :: st) h mc ms Q := by
  subst hn
  intro p e s m args below meth c H locs cells slots lsA tc ts hM hS hL h1 h2
  exact lv_isub hM.1 hM.2.1 hd (k p e s m args below meth c H locs cells slots lsA tc ts hM hS hL h1 h2)
theorem ev_imul {x y : Int32} (n : Nat) (hd : decode (mC M) pc = .ok (.imul, 1)) (hn : pc + 1 = n) (k : Ev g M d n ls (.int (x * y) :: st) h mc ms Q) : Ev g M d pc ls (.int y :: .int x :: st) h mc ms Q := by
  subst hn
  intro p e s m args below meth c H locs cells slots lsA tc ts hM hS hL h1 h2
  exact lv_imul hM.1 hM.2.1 hd (k p e s m args below meth c H locs cells slots lsA tc ts hM hS hL h1 h2)
theorem ev_iand {x y : Int32} (n : Nat) (hd : decode (mC M) pc = .ok (.iand, 1)) (hn : pc + 1 = n) (k : Ev g M d n ls (.int (x &&& y) :: st) h mc ms Q) : Ev g M d pc ls (.int y :: .int x :: st) h mc ms Q := by
  subst hn
  intro p e s m args below meth c H locs cells slots lsA tc ts hM hS hL h1 h2
  exact lv_iand hM.1 hM.2.1 hd (k p e s m args below meth c H locs cells slots lsA tc ts hM hS hL h1 h2)
theorem ev_ior {x y : Int32} (n : Nat) (hd : decode (mC M) pc = .ok (.ior, 1)) (hn : pc + 1 = n) (k : Ev g M d n ls (.int (x ||| y) :: st) h mc ms Q) : Ev g M d pc ls (.int y :: .int x :: st) h mc ms Q := by
  subst hn
  intro p e s m args below meth c H locs cells slots lsA tc ts hM hS hL h1 h2
  exact lv_ior hM.1 hM.2.1 hd (k p e s m args below meth c H locs cells slots lsA tc ts hM hS hL h1 h2)
theorem ev_ixor {x y : Int32} (n : Nat) (hd : decode (mC M) pc = .ok (.ixor, 1)) (hn : pc + 1 = n) (k : Ev g M d n ls (.int (x ^^^ y) :: st) h mc ms Q) : Ev g M d pc ls (.int y :: .int x :: st) h mc ms Q := by
  subst hn
  intro p e s m args below meth c H locs cells slots lsA tc ts hM hS hL h1 h2
  exact lv_ixor hM.1 hM.2.1 hd (k p e s m args below meth c H locs cells slots lsA tc ts hM hS hL h1 h2)
theorem ev_ishr {x y : Int32} (n : Nat) (hd : decode (mC M) pc = .ok (.ishr, 1)) (hn : pc + 1 = n) (k : Ev g M d n ls (.int (x >>> (y &&& 31)) :: st) h mc ms Q) : Ev g M d pc ls (.int y :: .int x :: st) h mc ms Q := by
  subst hn
  intro p e s m args below meth c H locs cells slots lsA tc ts hM hS hL h1 h2
  exact lv_ishr hM.1 hM.2.1 hd (k p e s m args below meth c H locs cells slots lsA tc ts hM hS hL h1 h2)
theorem ev_ishl {x y : Int32} (n : Nat) (hd : decode (mC M) pc = .ok (.ishl, 1)) (hn : pc + 1 = n) (k : Ev g M d n ls (.int (x <<< (y &&& 31)) :: st) h mc ms Q) : Ev g M d pc ls (.int y :: .int x :: st) h mc ms Q := by
  subst hn
  intro p e s m args below meth c H locs cells slots lsA tc ts hM hS hL h1 h2
  exact lv_ishl hM.1 hM.2.1 hd (k p e s m args below meth c H locs cells slots lsA tc ts hM hS hL h1 h2)
theorem ev_idiv {x y : Int32} (n : Nat) (hd : decode (mC M) pc = .ok (.idiv, 1)) (hne : ¬ y = 0) (hn : pc + 1 = n) (k : Ev g M d n ls (.int (x / y) :: st) h mc ms Q) : Ev g M d pc ls (.int y :: .int x :: st) h mc ms Q := by
  subst hn
  intro p e s m args below meth c H locs cells slots lsA tc ts hM hS hL h1 h2
  exact lv_idiv hM.1 hM.2.1 hd hne (k p e s m args below meth c H locs cells slots lsA tc ts hM hS hL h1 h2)
theorem ev_irem {x y : Int32} (n : Nat) (hd : decode (mC M) pc = .ok (.irem, 1)) (hne : ¬ y = 0) (hn : pc + 1 = n) (k : Ev g M d n ls (.int (x - x / y * y) :: st) h mc ms Q) : Ev g M d pc ls (.int y :: .int x :: st) h mc ms Q := by
  subst hn
  intro p e s m args below meth c H locs cells slots lsA tc ts hM hS hL h1 h2
  exact lv_irem hM.1 hM.2.1 hd hne (k p e s m args below meth c H locs cells slots lsA tc ts hM hS hL h1 h2)
theorem ev_ladd {x y : Int64} (n : Nat) (hd : decode (mC M) pc = .ok (.ladd, 1)) (hn : pc + 1 = n) (k : Ev g M d n ls (.long (x + y) :: st) h mc ms Q) : Ev g M d pc ls (.long y :: .long x :: st) h mc ms Q := by
  subst hn
  intro p e s m args below meth c H locs cells slots lsA tc ts hM hS hL h1 h2
  exact lv_ladd hM.1 hM.2.1 hd (k p e s m args below meth c H locs cells slots lsA tc ts hM hS hL h1 h2)
theorem ev_land {x y : Int64} (n : Nat) (hd : decode (mC M) pc = .ok (.land, 1)) (hn : pc + 1 = n) (k : Ev g M d n ls (.long (x &&& y) :: st) h mc ms Q) : Ev g M d pc ls (.long y :: .long x :: st) h mc ms Q := by
  subst hn
  intro p e s m args below meth c H locs cells slots lsA tc ts hM hS hL h1 h2
  exact lv_land hM.1 hM.2.1 hd (k p e s m args below meth c H locs cells slots lsA tc ts hM hS hL h1 h2)
theorem ev_lor {x y : Int64} (n : Nat) (hd : decode (mC M) pc = .ok (.lor, 1)) (hn : pc + 1 = n) (k : Ev g M d n ls (.long (x ||| y) :: st) h mc ms Q) : Ev g M d pc ls (.long y :: .long x :: st) h mc ms Q := by
  subst hn
  intro p e s m args below meth c H locs cells slots lsA tc ts hM hS hL h1 h2
  exact lv_lor hM.1 hM.2.1 hd (k p e s m args below meth c H locs cells slots lsA tc ts hM hS hL h1 h2)
theorem ev_lushr {x : Int64} {y : Int32} (n : Nat) (hd : decode (mC M) pc = .ok (.lushr, 1)) (hn : pc + 1 = n) (k : Ev g M d n ls (.long ((x.toUInt64 >>> (y.toInt64.toUInt64 &&& Int64.toUInt64 63)).toInt64) :: st) h mc ms Q) : Ev g M d pc ls (.int y :: .long x :: st) h mc ms Q := by
  subst hn
  intro p e s m args below meth c H locs cells slots lsA tc ts hM hS hL h1 h2
  exact lv_lushr hM.1 hM.2.1 hd rfl (k p e s m args below meth c H locs cells slots lsA tc ts hM hS hL h1 h2)
theorem ev_lshl {x : Int64} {y : Int32} (n : Nat) (hd : decode (mC M) pc = .ok (.lshl, 1)) (hn : pc + 1 = n) (k : Ev g M d n ls (.long (x <<< (y.toInt64 &&& 63)) :: st) h mc ms Q) : Ev g M d pc ls (.int y :: .long x :: st) h mc ms Q := by
  subst hn
  intro p e s m args below meth c H locs cells slots lsA tc ts hM hS hL h1 h2
  exact lv_lshl hM.1 hM.2.1 hd rfl (k p e s m args below meth c H locs cells slots lsA tc ts hM hS hL h1 h2)
theorem ev_lcmp {x y : Int64} (n : Nat) (hd : decode (mC M) pc = .ok (.lcmp, 1)) (hn : pc + 1 = n) (k : Ev g M d n ls (.int (lg_cmp x y) :: st) h mc ms Q) : Ev g M d pc ls (.long y :: .long x :: st) h mc ms Q := by
  subst hn
  intro p e s m args below meth c H locs cells slots lsA tc ts hM hS hL h1 h2
  exact W.lcmp hM.1 hM.2.1 hd (k p e s m args below meth c H locs cells slots lsA tc ts hM hS hL h1 h2)
theorem ev_i2l {x : Int32} (n : Nat) (hd : decode (mC M) pc = .ok (.i2l, 1)) (hn : pc + 1 = n) (k : Ev g M d n ls (.long x.toInt64 :: st) h mc ms Q) : Ev g M d pc ls (.int x :: st) h mc ms Q := by
  subst hn
  intro p e s m args below meth c H locs cells slots lsA tc ts hM hS hL h1 h2
  exact lv_i2l hM.1 hM.2.1 hd rfl (k p e s m args below meth c H locs cells slots lsA tc ts hM hS hL h1 h2)
theorem ev_i2c {x : Int32} (n : Nat) (hd : decode (mC M) pc = .ok (.i2c, 1)) (hn : pc + 1 = n) (k : Ev g M d n ls (.int ((x.toUInt32 % 65536).toInt32) :: st) h mc ms Q) : Ev g M d pc ls (.int x :: st) h mc ms Q := by
  subst hn
  intro p e s m args below meth c H locs cells slots lsA tc ts hM hS hL h1 h2
  exact lv_i2c hM.1 hM.2.1 hd rfl (k p e s m args below meth c H locs cells slots lsA tc ts hM hS hL h1 h2)
theorem ev_i2d {x : Int32} (n : Nat) (hd : decode (mC M) pc = .ok (.i2d, 1)) (hn : pc + 1 = n) (k : Ev g M d n ls (.double (FP.i2d x) :: st) h mc ms Q) : Ev g M d pc ls (.int x :: st) h mc ms Q := by
  subst hn
  intro p e s m args below meth c H locs cells slots lsA tc ts hM hS hL h1 h2
  exact lv_i2d hM.1 hM.2.1 hd (k p e s m args below meth c H locs cells slots lsA tc ts hM hS hL h1 h2)
theorem ev_i2f {x : Int32} (n : Nat) (hd : decode (mC M) pc = .ok (.i2f, 1)) (hn : pc + 1 = n) (k : Ev g M d n ls (.float (FP.i2f x) :: st) h mc ms Q) : Ev g M d pc ls (.int x :: st) h mc ms Q := by
  subst hn
  intro p e s m args below meth c H locs cells slots lsA tc ts hM hS hL h1 h2
  exact lv_i2f hM.1 hM.2.1 hd (k p e s m args below meth c H locs cells slots lsA tc ts hM hS hL h1 h2)
theorem ev_f2d {x : UInt32} (n : Nat) (hd : decode (mC M) pc = .ok (.f2d, 1)) (hne : vf_n64 (FP.f2d x)) (hn : pc + 1 = n) (k : Ev g M d n ls (.double (FP.f2d x) :: st) h mc ms Q) : Ev g M d pc ls (.float x :: st) h mc ms Q := by
  subst hn
  intro p e s m args below meth c H locs cells slots lsA tc ts hM hS hL h1 h2
  exact lv_f2d hM.1 hM.2.1 hd hne (k p e s m args below meth c H locs cells slots lsA tc ts hM hS hL h1 h2)
theorem ev_ddiv {x y : UInt64} (n : Nat) (hd : decode (mC M) pc = .ok (.ddiv, 1)) (hne : vf_n64 (FP.ddiv x y)) (hn : pc + 1 = n) (k : Ev g M d n ls (.double (FP.ddiv x y) :: st) h mc ms Q) : Ev g M d pc ls (.double y :: .double x :: st) h mc ms Q := by
  subst hn
  intro p e s m args below meth c H locs cells slots lsA tc ts hM hS hL h1 h2
  exact lv_ddiv hM.1 hM.2.1 hd hne (k p e s m args below meth c H locs cells slots lsA tc ts hM hS hL h1 h2)
theorem ev_fdiv {x y : UInt32} (n : Nat) (hd : decode (mC M) pc = .ok (.fdiv, 1)) (hne : vf_n32 (FP.fdiv x y)) (hn : pc + 1 = n) (k : Ev g M d n ls (.float (FP.fdiv x y) :: st) h mc ms Q) : Ev g M d pc ls (.float y :: .float x :: st) h mc ms Q := by
  subst hn
  intro p e s m args below meth c H locs cells slots lsA tc ts hM hS hL h1 h2
  exact lv_fdiv hM.1 hM.2.1 hd hne (k p e s m args below meth c H locs cells slots lsA tc ts hM hS hL h1 h2)
theorem ev_dcmp {x y : UInt64} {op : CmpOp} (n : Nat) (hd : decode (mC M) pc = .ok (.dcmp op, 1)) (hn : pc + 1 = n) (k : Ev g M d n ls (.int (Op.cmpValue (FP.dcmp x y) op) :: st) h mc ms Q) : Ev g M d pc ls (.double y :: .double x :: st) h mc ms Q := by
  subst hn
  intro p e s m args below meth c H locs cells slots lsA tc ts hM hS hL h1 h2
  exact lv_dcmp hM.1 hM.2.1 hd (k p e s m args below meth c H locs cells slots lsA tc ts hM hS hL h1 h2)
theorem ev_fcmp {x y : UInt32} {op : CmpOp} (n : Nat) (hd : decode (mC M) pc = .ok (.fcmp op, 1)) (hn : pc + 1 = n) (k : Ev g M d n ls (.int (Op.cmpValue (FP.fcmp x y) op) :: st) h mc ms Q) : Ev g M d pc ls (.float y :: .float x :: st) h mc ms Q := by
  subst hn
  intro p e s m args below meth c H locs cells slots lsA tc ts hM hS hL h1 h2
  exact lv_fcmp hM.1 hM.2.1 hd (k p e s m args below meth c H locs cells slots lsA tc ts hM hS hL h1 h2)
theorem ev_fconst0 (n : Nat) (hd : decode (mC M) pc = .ok (.fconst 0, 1)) (hn : pc + 1 = n) (k : Ev g M d n ls (.float FP.fconst0 :: st) h mc ms Q) : Ev g M d pc ls (st) h mc ms Q := by
  subst hn
  intro p e s m args below meth c H locs cells slots lsA tc ts hM hS hL h1 h2
  exact lv_fconst0 hM.1 hM.2.1 hd (k p e s m args below meth c H locs cells slots lsA tc ts hM hS hL h1 h2)
theorem ev_dconst0 (n : Nat) (hd : decode (mC M) pc = .ok (.dconst 0, 1)) (hn : pc + 1 = n) (k : Ev g M d n ls (.double FP.dconst0 :: st) h mc ms Q) : Ev g M d pc ls (st) h mc ms Q := by
  subst hn
  intro p e s m args below meth c H locs cells slots lsA tc ts hM hS hL h1 h2
  exact lv_dconst0 hM.1 hM.2.1 hd (k p e s m args below meth c H locs cells slots lsA tc ts hM hS hL h1 h2)
theorem ev_iconst {z : Int} (v : Int32) (n : Nat) (hd : decode (mC M) pc = .ok (.iconst z, 1)) (hv : Int32.ofInt z = v) (hn : pc + 1 = n) (k : Ev g M d n ls (.int v :: st) h mc ms Q) : Ev g M d pc ls (st) h mc ms Q := by
  subst hn
  intro p e s m args below meth c H locs cells slots lsA tc ts hM hS hL h1 h2
  exact lv_iconst hM.1 hM.2.1 hd hv (k p e s m args below meth c H locs cells slots lsA tc ts hM hS hL h1 h2)
theorem ev_bipush {z : Int} (v : Int32) (n : Nat) (hd : decode (mC M) pc = .ok (.bipush z, 2)) (hv : (Int8.ofInt z).toInt32 = v) (hn : pc + 2 = n) (k : Ev g M d n ls (.int v :: st) h mc ms Q) : Ev g M d pc ls (st) h mc ms Q := by
  subst hn
  intro p e s m args below meth c H locs cells slots lsA tc ts hM hS hL h1 h2
  exact lv_bipush hM.1 hM.2.1 hd hv (k p e s m args below meth c H locs cells slots lsA tc ts hM hS hL h1 h2)
theorem ev_sipush {z : Int} (v : Int32) (n : Nat) (hd : decode (mC M) pc = .ok (.sipush z, 3)) (hv : (Int16.ofInt z).toInt32 = v) (hn : pc + 3 = n) (k : Ev g M d n ls (.int v :: st) h mc ms Q) : Ev g M d pc ls (st) h mc ms Q := by
  subst hn
  intro p e s m args below meth c H locs cells slots lsA tc ts hM hS hL h1 h2
  exact lv_sipush hM.1 hM.2.1 hd hv (k p e s m args below meth c H locs cells slots lsA tc ts hM hS hL h1 h2)
theorem ev_lconst {z : Fin 2} (v : Int64) (n : Nat) (hd : decode (mC M) pc = .ok (.lconst z, 1)) (hv : Int64.ofNat (z : Nat) = v) (hn : pc + 1 = n) (k : Ev g M d n ls (.long v :: st) h mc ms Q) : Ev g M d pc ls (st) h mc ms Q := by
  subst hn
  intro p e s m args below meth c H locs cells slots lsA tc ts hM hS hL h1 h2
  exact lv_lconst hM.1 hM.2.1 hd hv (k p e s m args below meth c H locs cells slots lsA tc ts hM hS hL h1 h2)
theorem ev_dup {v : Value} (n : Nat) (hd : decode (mC M) pc = .ok (.dup, 1)) (hv : v.category = 1) (hn : pc + 1 = n) (k : Ev g M d n ls (v :: v :: st) h mc ms Q) : Ev g M d pc ls (v :: st) h mc ms Q := by
  subst hn
  intro p e s m args below meth c H locs cells slots lsA tc ts hM hS hL h1 h2
  exact lv_dup hM.1 hM.2.1 hd hv (k p e s m args below meth c H locs cells slots lsA tc ts hM hS hL h1 h2)
theorem ev_pop {v : Value} (n : Nat) (hd : decode (mC M) pc = .ok (.pop, 1)) (hv : v.category = 1) (hn : pc + 1 = n) (k : Ev g M d n ls (st) h mc ms Q) : Ev g M d pc ls (v :: st) h mc ms Q := by
  subst hn
  intro p e s m args below meth c H locs cells slots lsA tc ts hM hS hL h1 h2
  exact lv_pop hM.1 hM.2.1 hd hv (k p e s m args below meth c H locs cells slots lsA tc ts hM hS hL h1 h2)
theorem ev_dup2 {v w : Value} (n : Nat) (hd : decode (mC M) pc = .ok (.dup2, 1)) (hv : v.category = 1) (hw : w.category = 1) (hn : pc + 1 = n) (k : Ev g M d n ls (v :: w :: v :: w :: st) h mc ms Q) : Ev g M d pc ls (v :: w :: st) h mc ms Q := by
  subst hn
  intro p e s m args below meth c H locs cells slots lsA tc ts hM hS hL h1 h2
  exact lv_dup2_11 hM.1 hM.2.1 hd hv hw (k p e s m args below meth c H locs cells slots lsA tc ts hM hS hL h1 h2)
theorem ev_goto {off : Int} (n : Nat) (hd : decode (mC M) pc = .ok (.goto off, 3)) (hn : (pc : Int) + off = (n : Int)) (k : Ev g M d n ls st h mc ms Q) : Ev g M d pc ls st h mc ms Q := by
  intro p e s m args below meth c H locs cells slots lsA tc ts hM hS hL h1 h2
  exact lv_goto hM.1 hM.2.1 hd hn (k p e s m args below meth c H locs cells slots lsA tc ts hM hS hL h1 h2)
theorem ev_if_eq {x : Int32} {off : Int} (t n : Nat) (hd : decode (mC M) pc = .ok (.ifCond .eq off, 3)) (ht : (pc : Int) + off = (t : Int)) (hn : pc + 3 = n) (kt : x = 0 → Ev g M d t ls st h mc ms Q) (kf : ¬ x = 0 → Ev g M d n ls st h mc ms Q) : Ev g M d pc ls (.int x :: st) h mc ms Q := by
  subst hn
  intro p e s m args below meth c H locs cells slots lsA tc ts hM hS hL h1 h2
  exact lv_if_eq hM.1 hM.2.1 hd ht (fun z => kt z p e s m args below meth c H locs cells slots lsA tc ts hM hS hL h1 h2) (fun z => kf z p e s m args below meth c H locs cells slots lsA tc ts hM hS hL h1 h2)
theorem ev_icmp_eq {x y : Int32} {off : Int} (t n : Nat) (hd : decode (mC M) pc = .ok (.if_icmp .eq off, 3)) (ht : (pc : Int) + off = (t : Int)) (hn : pc + 3 = n) (kt : x = y → Ev g M d t ls st h mc ms Q) (kf : ¬ x = y → Ev g M d n ls st h mc ms Q) : Ev g M d pc ls (.int y :: .int x :: st) h mc ms Q := by
  subst hn
  intro p e s m args below meth c H locs cells slots lsA tc ts hM hS hL h1 h2
  exact lv_icmp_eq hM.1 hM.2.1 hd ht (fun z => kt z p e s m args below meth c H locs cells slots lsA tc ts hM hS hL h1 h2) (fun z => kf z p e s m args below meth c H locs cells slots lsA tc ts hM hS hL h1 h2)
theorem ev_if_ne {x : Int32} {off : Int} (t n : Nat) (hd : decode (mC M) pc = .ok (.ifCond .ne off, 3)) (ht : (pc : Int) + off = (t : Int)) (hn : pc + 3 = n) (kt : ¬ x = 0 → Ev g M d t ls st h mc ms Q) (kf : x = 0 → Ev g M d n ls st h mc ms Q) : Ev g M d pc ls (.int x :: st) h mc ms Q := by
  subst hn
  intro p e s m args below meth c H locs cells slots lsA tc ts hM hS hL h1 h2
  exact lv_if_ne hM.1 hM.2.1 hd ht (fun z => kt z p e s m args below meth c H locs cells slots lsA tc ts hM hS hL h1 h2) (fun z => kf z p e s m args below meth c H locs cells slots lsA tc ts hM hS hL h1 h2)
theorem ev_icmp_ne {x y : Int32} {off : Int} (t n : Nat) (hd : decode (mC M) pc = .ok (.if_icmp .ne off, 3)) (ht : (pc : Int) + off = (t : Int)) (hn : pc + 3 = n) (kt : ¬ x = y → Ev g M d t ls st h mc ms Q) (kf : x = y → Ev g M d n ls st h mc ms Q) : Ev g M d pc ls (.int y :: .int x :: st) h mc ms Q := by
  subst hn
  intro p e s m args below meth c H locs cells slots lsA tc ts hM hS hL h1 h2
  exact lv_icmp_ne hM.1 hM.2.1 hd ht (fun z => kt z p e s m args below meth c H locs cells slots lsA tc ts hM hS hL h1 h2) (fun z => kf z p e s m args below meth c H locs cells slots lsA tc ts hM hS hL h1 h2)
theorem ev_if_lt {x : Int32} {off : Int} (t n : Nat) (hd : decode (mC M) pc = .ok (.ifCond .lt off, 3)) (ht : (pc : Int) + off = (t : Int)) (hn : pc + 3 = n) (kt : x < 0 → Ev g M d t ls st h mc ms Q) (kf : ¬ x < 0 → Ev g M d n ls st h mc ms Q) : Ev g M d pc ls (.int x :: st) h mc ms Q := by
  subst hn
  intro p e s m args below meth c H locs cells slots lsA tc ts hM hS hL h1 h2
  exact lv_if_lt hM.1 hM.2.1 hd ht (fun z => kt z p e s m args below meth c H locs cells slots lsA tc ts hM hS hL h1 h2) (fun z => kf z p e s m args below meth c H locs cells slots lsA tc ts hM hS hL h1 h2)
theorem ev_icmp_lt {x y : Int32} {off : Int} (t n : Nat) (hd : decode (mC M) pc = .ok (.if_icmp .lt off, 3)) (ht : (pc : Int) + off = (t : Int)) (hn : pc + 3 = n) (kt : x < y → Ev g M d t ls st h mc ms Q) (kf : ¬ x < y → Ev g M d n ls st h mc ms Q) : Ev g M d pc ls (.int y :: .int x :: st) h mc ms Q := by
  subst hn
  intro p e s m args below meth c H locs cells slots lsA tc ts hM hS hL h1 h2
  exact lv_icmp_lt hM.1 hM.2.1 hd ht (fun z => kt z p e s m args below meth c H locs cells slots lsA tc ts hM hS hL h1 h2) (fun z => kf z p e s m args below meth c H locs cells slots lsA tc ts hM hS hL h1 h2)
theorem ev_if_ge {x : Int32} {off : Int} (t n : Nat) (hd : decode (mC M) pc = .ok (.ifCond .ge off, 3)) (ht : (pc : Int) + off = (t : Int)) (hn : pc + 3 = n) (kt : 0 ≤ x → Ev g M d t ls st h mc ms Q) (kf : ¬ 0 ≤ x → Ev g M d n ls st h mc ms Q) : Ev g M d pc ls (.int x :: st) h mc ms Q := by
  subst hn
  intro p e s m args below meth c H locs cells slots lsA tc ts hM hS hL h1 h2
  exact lv_if_ge hM.1 hM.2.1 hd ht (fun z => kt z p e s m args below meth c H locs cells slots lsA tc ts hM hS hL h1 h2) (fun z => kf z p e s m args below meth c H locs cells slots lsA tc ts hM hS hL h1 h2)
theorem ev_icmp_ge {x y : Int32} {off : Int} (t n : Nat) (hd : decode (mC M) pc = .ok (.if_icmp .ge off, 3)) (ht : (pc : Int) + off = (t : Int)) (hn : pc + 3 = n) (kt : y ≤ x → Ev g M d t ls st h mc ms Q) (kf : ¬ y ≤ x → Ev g M d n ls st h mc ms Q) : Ev g M d pc ls (.int y :: .int x :: st) h mc ms Q := by
  subst hn
  intro p e s m args below meth c H locs cells slots lsA tc ts hM hS hL h1 h2
  exact lv_icmp_ge hM.1 hM.2.1 hd ht (fun z => kt z p e s m args below meth c H locs cells slots lsA tc ts hM hS hL h1 h2) (fun z => kf z p e s m args below meth c H locs cells slots lsA tc ts hM hS hL h1 h2)
theorem ev_if_gt {x : Int32} {off : Int} (t n : Nat) (hd : decode (mC M) pc = .ok (.ifCond .gt off, 3)) (ht : (pc : Int) + off = (t : Int)) (hn : pc + 3 = n) (kt : 0 < x → Ev g M d t ls st h mc ms Q) (kf : ¬ 0 < x → Ev g M d n ls st h mc ms Q) : Ev g M d pc ls (.int x :: st) h mc ms Q := by
  subst hn
  intro p e s m args below meth c H locs cells slots lsA tc ts hM hS hL h1 h2
  exact lv_if_gt hM.1 hM.2.1 hd ht (fun z => kt z p e s m args below meth c H locs cells slots lsA tc ts hM hS hL h1 h2) (fun z => kf z p e s m args below meth c H locs cells slots lsA tc ts hM hS hL h1 h2)
theorem ev_icmp_gt {x y : Int32} {off : Int} (t n : Nat) (hd : decode (mC M) pc = .ok (.if_icmp .gt off, 3)) (ht : (pc : Int) + off = (t : Int)) (hn : pc + 3 = n) (kt : y < x → Ev g M d t ls st h mc ms Q) (kf : ¬ y < x → Ev g M d n ls st h mc ms Q) : Ev g M d pc ls (.int y :: .int x :: st) h mc ms Q := by
  subst hn
  intro p e s m args below meth c H locs cells slots lsA tc ts hM hS hL h1 h2
  exact lv_icmp_gt hM.1 hM.2.1 hd ht (fun z => kt z p e s m args below meth c H locs cells slots lsA tc ts hM hS hL h1 h2) (fun z => kf z p e s m args below meth c H locs cells slots lsA tc ts hM hS hL h1 h2)
theorem ev_if_le {x : Int32} {off : Int} (t n : Nat) (hd : decode (mC M) pc = .ok (.ifCond .le off, 3)) (ht : (pc : Int) + off = (t : Int)) (hn : pc + 3 = n) (kt : x ≤ 0 → Ev g M d t ls st h mc ms Q) (kf : ¬ x ≤ 0 → Ev g M d n ls st h mc ms Q) : Ev g M d pc ls (.int x :: st) h mc ms Q := by
  subst hn
  intro p e s m args below meth c H locs cells slots lsA tc ts hM hS hL h1 h2
  exact lv_if_le hM.1 hM.2.1 hd ht (fun z => kt z p e s m args below meth c H locs cells slots lsA tc ts hM hS hL h1 h2) (fun z => kf z p e s m args below meth c H locs cells slots lsA tc ts hM hS hL h1 h2)
theorem ev_icmp_le {x y : Int32} {off : Int} (t n : Nat) (hd : decode (mC M) pc = .ok (.if_icmp .le off, 3)) (ht : (pc : Int) + off = (t : Int)) (hn : pc + 3 = n) (kt : x ≤ y → Ev g M d t ls st h mc ms Q) (kf : ¬ x ≤ y → Ev g M d n ls st h mc ms Q) : Ev g M d pc ls (.int y :: .int x :: st) h mc ms Q := by
  subst hn
  intro p e s m args below meth c H locs cells slots lsA tc ts hM hS hL h1 h2
  exact lv_icmp_le hM.1 hM.2.1 hd ht (fun z => kt z p e s m args below meth c H locs cells slots lsA tc ts hM hS hL h1 h2) (fun z => kf z p e s m args below meth c H locs cells slots lsA tc ts hM hS hL h1 h2)
theorem ev_acmp_eq {rx ry : Option Nat} {off : Int} (t n : Nat) (hd : decode (mC M) pc = .ok (.if_acmp .eq off, 3)) (ht : (pc : Int) + off = (t : Int)) (hn : pc + 3 = n) (kt : rx = ry → Ev g M d t ls st h mc ms Q) (kf : ¬ rx = ry → Ev g M d n ls st h mc ms Q) : Ev g M d pc ls (va_rf ry :: va_rf rx :: st) h mc ms Q := by
  subst hn
  intro p e s m args below meth c H locs cells slots lsA tc ts hM hS hL h1 h2
  exact lv_acmp_eq hM.1 hM.2.1 hd ht (fun z => kt z p e s m args below meth c H locs cells slots lsA tc ts hM hS hL h1 h2) (fun z => kf z p e s m args below meth c H locs cells slots lsA tc ts hM hS hL h1 h2)
theorem ev_acmp_ne {rx ry : Option Nat} {off : Int} (t n : Nat) (hd : decode (mC M) pc = .ok (.if_acmp .ne off, 3)) (ht : (pc : Int) + off = (t : Int)) (hn : pc + 3 = n) (kt : ¬ rx = ry → Ev g M d t ls st h mc ms Q) (kf : rx = ry → Ev g M d n ls st h mc ms Q) : Ev g M d pc ls (va_rf ry :: va_rf rx :: st) h mc ms Q := by
  subst hn
  intro p e s m args below meth c H locs cells slots lsA tc ts hM hS hL h1 h2
  exact lv_acmp_ne hM.1 hM.2.1 hd ht (fun z => kt z p e s m args below meth c H locs cells slots lsA tc ts hM hS hL h1 h2) (fun z => kf z p e s m args below meth c H locs cells slots lsA tc ts hM hS hL h1 h2)
theorem ev_iload {i : Nat} {x : Int32} (n : Nat) (hd : decode (mC M) pc = .ok (.iload i, 2)) (hl : ldL ls i = some (.int x)) (hn : pc + 2 = n) (k : Ev g M d n ls (.int x :: st) h mc ms Q) : Ev g M d pc ls st h mc ms Q := by
  subst hn
  intro p e s m args below meth c H locs cells slots lsA tc ts hM hS hL h1 h2
  exact lv_iload hM.1 hM.2.1 hd (hL.2.2 _ _ hl) (k p e s m args below meth c H locs cells slots lsA tc ts hM hS hL h1 h2)
theorem ev_iload_n {i : Fin 4} {x : Int32} (n : Nat) (hd : decode (mC M) pc = .ok (.iload_n i, 1)) (hl : ldL ls i.val = some (.int x)) (hn : pc + 1 = n) (k : Ev g M d n ls (.int x :: st) h mc ms Q) : Ev g M d pc ls st h mc ms Q := by
  subst hn
  intro p e s m args below meth c H locs cells slots lsA tc ts hM hS hL h1 h2
  exact lv_iload_n hM.1 hM.2.1 hd rfl (hL.2.2 _ _ hl) (k p e s m args below meth c H locs cells slots lsA tc ts hM hS hL h1 h2)
theorem ev_lload {i : Nat} {x : Int64} (n : Nat) (hd : decode (mC M) pc = .ok (.lload i, 2)) (hl : ldL ls i = some (.long x)) (hn : pc + 2 = n) (k : Ev g M d n ls (.long x :: st) h mc ms Q) : Ev g M d pc ls st h mc ms Q := by
  subst hn
  intro p e s m args below meth c H locs cells slots lsA tc ts hM hS hL h1 h2
  exact lv_lload hM.1 hM.2.1 hd (hL.2.2 _ _ hl) (k p e s m args below meth c H locs cells slots lsA tc ts hM hS hL h1 h2)
theorem ev_lload_n {i : Fin 4} {x : Int64} (n : Nat) (hd : decode (mC M) pc = .ok (.lload_n i, 1)) (hl : ldL ls i.val = some (.long x)) (hn : pc + 1 = n) (k : Ev g M d n ls (.long x :: st) h mc ms Q) : Ev g M d pc ls st h mc ms Q := by
  subst hn
  intro p e s m args below meth c H locs cells slots lsA tc ts hM hS hL h1 h2
  exact lv_lload_n hM.1 hM.2.1 hd rfl (hL.2.2 _ _ hl) (k p e s m args below meth c H locs cells slots lsA tc ts hM hS hL h1 h2)
theorem ev_aload {i : Nat} {x : Nat} (n : Nat) (hd : decode (mC M) pc = .ok (.aload i, 2)) (hl : ldL ls i = some (.ref x)) (hn : pc + 2 = n) (k : Ev g M d n ls (.ref x :: st) h mc ms Q) : Ev g M d pc ls st h mc ms Q := by
  subst hn
  intro p e s m args below meth c H locs cells slots lsA tc ts hM hS hL h1 h2
  exact lv_aload hM.1 hM.2.1 hd (hL.2.2 _ _ hl) (k p e s m args below meth c H locs cells slots lsA tc ts hM hS hL h1 h2)
theorem ev_aload_n {i : Fin 4} {x : Nat} (n : Nat) (hd : decode (mC M) pc = .ok (.aload_n i, 1)) (hl : ldL ls i.val = some (.ref x)) (hn : pc + 1 = n) (k : Ev g M d n ls (.ref x :: st) h mc ms Q) : Ev g M d pc ls st h mc ms Q := by
  subst hn
  intro p e s m args below meth c H locs cells slots lsA tc ts hM hS hL h1 h2
  exact lv_aload_n hM.1 hM.2.1 hd rfl (hL.2.2 _ _ hl) (k p e s m args below meth c H locs cells slots lsA tc ts hM hS hL h1 h2)
theorem ev_fload {i : Nat} {x : UInt32} (n : Nat) (hd : decode (mC M) pc = .ok (.fload i, 2)) (hl : ldL ls i = some (.float x)) (hn : pc + 2 = n) (k : Ev g M d n ls (.float x :: st) h mc ms Q) : Ev g M d pc ls st h mc ms Q := by
  subst hn
  intro p e s m args below meth c H locs cells slots lsA tc ts hM hS hL h1 h2
  exact lv_fload hM.1 hM.2.1 hd (hL.2.2 _ _ hl) (k p e s m args below meth c H locs cells slots lsA tc ts hM hS hL h1 h2)
theorem ev_fload_n {i : Fin 4} {x : UInt32} (n : Nat) (hd : decode (mC M) pc = .ok (.fload_n i, 1)) (hl : ldL ls i.val = some (.float x)) (hn : pc + 1 = n) (k : Ev g M d n ls (.float x :: st) h mc ms Q) : Ev g M d pc ls st h mc ms Q := by
  subst hn
  intro p e s m args below meth c H locs cells slots lsA tc ts hM hS hL h1 h2
  exact lv_fload_n hM.1 hM.2.1 hd rfl (hL.2.2 _ _ hl) (k p e s m args below meth c H locs cells slots lsA tc ts hM hS hL h1 h2)
theorem ev_dload {i : Nat} {x : UInt64} (n : Nat) (hd : decode (mC M) pc = .ok (.dload i, 2)) (hl : ldL ls i = some (.double x)) (hn : pc + 2 = n) (k : Ev g M d n ls (.double x :: st) h mc ms Q) : Ev g M d pc ls st h mc ms Q := by
  subst hn
  intro p e s m args below meth c H locs cells slots lsA tc ts hM hS hL h1 h2
  exact lv_dload hM.1 hM.2.1 hd (hL.2.2 _ _ hl) (k p e s m args below meth c H locs cells slots lsA tc ts hM hS hL h1 h2)
theorem ev_dload_n {i : Fin 4} {x : UInt64} (n : Nat) (hd : decode (mC M) pc = .ok (.dload_n i, 1)) (hl : ldL ls i.val = some (.double x)) (hn : pc + 1 = n) (k : Ev g M d n ls (.double x :: st) h mc ms Q) : Ev g M d pc ls st h mc ms Q := by
  subst hn
  intro p e s m args below meth c H locs cells slots lsA tc ts hM hS hL h1 h2
  exact lv_dload_n hM.1 hM.2.1 hd rfl (hL.2.2 _ _ hl) (k p e s m args below meth c H locs cells slots lsA tc ts hM hS hL h1 h2)
theorem ev_istore {i : Nat} {x : Int32} {ls2 : List (Option Value)} (n : Nat) (hd : decode (mC M) pc = .ok (.istore i, 2)) (hs : stL ls i (.int x) = ls2) (hi : i < mL M) (hn : pc + 2 = n) (k : Ev g M d n ls2 st h mc ms Q) : Ev g M d pc ls (.int x :: st) h mc ms Q := by
  subst hn
  subst hs
  intro p e s m args below meth c H locs cells slots lsA tc ts hM hS hL h1 h2
  exact lv_istore hM.1 hM.2.1 hd hL.has hi rfl (fun lsA hL => k p e s m args below meth c H locs cells slots lsA tc ts hM hS (LX.st1 rfl hL) h1 h2)
theorem ev_istore_n {i : Fin 4} {x : Int32} {ls2 : List (Option Value)} (n : Nat) (hd : decode (mC M) pc = .ok (.istore_n i, 1)) (hs : stL ls i.val (.int x) = ls2) (hi : i.val < mL M) (hn : pc + 1 = n) (k : Ev g M d n ls2 st h mc ms Q) : Ev g M d pc ls (.int x :: st) h mc ms Q := by
  subst hn
  subst hs
  intro p e s m args below meth c H locs cells slots lsA tc ts hM hS hL h1 h2
  exact lv_istore_n hM.1 hM.2.1 hd rfl hL.has hi rfl (fun lsA hL => k p e s m args below meth c H locs cells slots lsA tc ts hM hS (LX.st1 rfl hL) h1 h2)
theorem ev_lstore {i : Nat} {x : Int64} {ls2 : List (Option Value)} (n : Nat) (hd : decode (mC M) pc = .ok (.lstore i, 2)) (hs : stL ls i (.long x) = ls2) (hi : i + 1 < mL M) (hn : pc + 2 = n) (k : Ev g M d n ls2 st h mc ms Q) : Ev g M d pc ls (.long x :: st) h mc ms Q := by
  subst hn
  subst hs
  intro p e s m args below meth c H locs cells slots lsA tc ts hM hS hL h1 h2
  exact lv_lstore hM.1 hM.2.1 hd hL.has hi rfl (fun lsA hL => k p e s m args below meth c H locs cells slots lsA tc ts hM hS (LX.st2 rfl hL) h1 h2)
theorem ev_lstore_n {i : Fin 4} {x : Int64} {ls2 : List (Option Value)} (n : Nat) (hd : decode (mC M) pc = .ok (.lstore_n i, 1)) (hs : stL ls i.val (.long x) = ls2) (hi : i.val + 1 < mL M) (hn : pc + 1 = n) (k : Ev g M d n ls2 st h mc ms Q) : Ev g M d pc ls (.long x :: st) h mc ms Q := by
  subst hn
  subst hs
  intro p e s m args below meth c H locs cells slots lsA tc ts hM hS hL h1 h2
  exact lv_lstore_n hM.1 hM.2.1 hd rfl hL.has hi rfl (fun lsA hL => k p e s m args below meth c H locs cells slots lsA tc ts hM hS (LX.st2 rfl hL) h1 h2)
theorem ev_astore {i : Nat} {x : Nat} {ls2 : List (Option Value)} (n : Nat) (hd : decode (mC M) pc = .ok (.astore i, 2)) (hs : stL ls i (.ref x) = ls2) (hi : i < mL M) (hn : pc + 2 = n) (k : Ev g M d n ls2 st h mc ms Q) : Ev g M d pc ls (.ref x :: st) h mc ms Q := by
  subst hn
  subst hs
  intro p e s m args below meth c H locs cells slots lsA tc ts hM hS hL h1 h2
  exact lv_astore hM.1 hM.2.1 hd hL.has hi rfl (fun lsA hL => k p e s m args below meth c H locs cells slots lsA tc ts hM hS (LX.st1 rfl hL) h1 h2)
theorem ev_astore_n {i : Fin 4} {x : Nat} {ls2 : List (Option Value)} (n : Nat) (hd : decode (mC M) pc = .ok (.astore_n i, 1)) (hs : stL ls i.val (.ref x) = ls2) (hi : i.val < mL M) (hn : pc + 1 = n) (k : Ev g M d n ls2 st h mc ms Q) : Ev g M d pc ls (.ref x :: st) h mc ms Q := by
  subst hn
  subst hs
  intro p e s m args below meth c H locs cells slots lsA tc ts hM hS hL h1 h2
  exact lv_astore_n hM.1 hM.2.1 hd rfl hL.has hi rfl (fun lsA hL => k p e s m args below meth c H locs cells slots lsA tc ts hM hS (LX.st1 rfl hL) h1 h2)
theorem ev_fstore {i : Nat} {x : UInt32} {ls2 : List (Option Value)} (n : Nat) (hd : decode (mC M) pc = .ok (.fstore i, 2)) (hs : stL ls i (.float x) = ls2) (hi : i < mL M) (hn : pc + 2 = n) (k : Ev g M d n ls2 st h mc ms Q) : Ev g M d pc ls (.float x :: st) h mc ms Q := by
  subst hn
  subst hs
  intro p e s m args below meth c H locs cells slots lsA tc ts hM hS hL h1 h2
  exact lv_fstore hM.1 hM.2.1 hd hL.has hi rfl (fun lsA hL => k p e s m args below meth c H locs cells slots lsA tc ts hM hS (LX.st1 rfl hL) h1 h2)
theorem ev_fstore_n {i : Fin 4} {x : UInt32} {ls2 : List (Option Value)} (n : Nat) (hd : decode (mC M) pc = .ok (.fstore_n i, 1)) (hs : stL ls i.val (.float x) = ls2) (hi : i.val < mL M) (hn : pc + 1 = n) (k : Ev g M d n ls2 st h mc ms Q) : Ev g M d pc ls (.float x :: st) h mc ms Q := by
  subst hn
  subst hs
  intro p e s m args below meth c H locs cells slots lsA tc ts hM hS hL h1 h2
  exact lv_fstore_n hM.1 hM.2.1 hd rfl hL.has hi rfl (fun lsA hL => k p e s m args below meth c H locs cells slots lsA tc ts hM hS (LX.st1 rfl hL) h1 h2)
theorem ev_dstore {i : Nat} {x : UInt64} {ls2 : List (Option Value)} (n : Nat) (hd : decode (mC M) pc = .ok (.dstore i, 2)) (hs : stL ls i (.double x) = ls2) (hi : i + 1 < mL M) (hn : pc + 2 = n) (k : Ev g M d n ls2 st h mc ms Q) : Ev g M d pc ls (.double x :: st) h mc ms Q := by
  subst hn
  subst hs
  intro p e s m args below meth c H locs cells slots lsA tc ts hM hS hL h1 h2
  exact lv_dstore hM.1 hM.2.1 hd hL.has hi rfl (fun lsA hL => k p e s m args below meth c H locs cells slots lsA tc ts hM hS (LX.st2 rfl hL) h1 h2)
theorem ev_dstore_n {i : Fin 4} {x : UInt64} {ls2 : List (Option Value)} (n : Nat) (hd : decode (mC M) pc = .ok (.dstore_n i, 1)) (hs : stL ls i.val (.double x) = ls2) (hi : i.val + 1 < mL M) (hn : pc + 1 = n) (k : Ev g M d n ls2 st h mc ms Q) : Ev g M d pc ls (.double x :: st) h mc ms Q := by
  subst hn
  subst hs
  intro p e s m args below meth c H locs cells slots lsA tc ts hM hS hL h1 h2
  exact lv_dstore_n hM.1 hM.2.1 hd rfl hL.has hi rfl (fun lsA hL => k p e s m args below meth c H locs cells slots lsA tc ts hM hS (LX.st2 rfl hL) h1 h2)
theorem ev_iinc {i : Nat} {z : Int} {x : Int32} {ls2 : List (Option Value)} (n : Nat) (hd : decode (mC M) pc = .ok (.iinc i z, 3)) (hl : ldL ls i = some (.int x)) (hs : stL ls i (.int (x + Int32.ofInt z)) = ls2) (hi : i < mL M) (hn : pc + 3 = n) (k : Ev g M d n ls2 st h mc ms Q) : Ev g M d pc ls st h mc ms Q := by
  subst hn
  subst hs
  intro p e s m args below meth c H locs cells slots lsA tc ts hM hS hL h1 h2
  have hm := enL_mem ls 0 i _ hl
  rw [Nat.zero_add] at hm
  obtain ⟨k9, hk9⟩ := List.getElem?_of_mem hm
  exact lv_iinc hM.1 hM.2.1 hd hL.has hk9 rfl hi rfl (fun lsA hL => k p e s m args below meth c H locs cells slots lsA tc ts hM hS (LX.st1 rfl hL) h1 h2)
theorem ev_ild0 {x : Int32} {t : List (Option Value)} (n : Nat) (hd : decode (mC M) pc = .ok (.iload_n 0, 1)) (hn : pc + 1 = n) (k : Ev g M d n (some (.int x) :: t) (.int x :: st) h mc ms Q) : Ev g M d pc (some (.int x) :: t) st h mc ms Q := ev_iload_n n hd (by show ldL _ 0 = _; simp [ldL]) hn k
theorem ev_ist0 {a0 : Option Value} {x : Int32} {t : List (Option Value)} (n : Nat) (hd : decode (mC M) pc = .ok (.istore_n 0, 1)) (hi : 0 < mL M) (hn : pc + 1 = n) (k : Ev g M d n (some (.int x) :: t) st h mc ms Q) : Ev g M d pc (a0 :: t) (.int x :: st) h mc ms Q := ev_istore_n n hd (by show stL _ 0 _ = _; simp [stL, stG, Value.category, stG_far]) hi hn k
theorem ev_lld0 {x : Int64} {t : List (Option Value)} (n : Nat) (hd : decode (mC M) pc = .ok (.lload_n 0, 1)) (hn : pc + 1 = n) (k : Ev g M d n (some (.long x) :: t) (.long x :: st) h mc ms Q) : Ev g M d pc (some (.long x) :: t) st h mc ms Q := ev_lload_n n hd (by show ldL _ 0 = _; simp [ldL]) hn k
theorem ev_lst0 {a0 a1 : Option Value} {x : Int64} {t : List (Option Value)} (n : Nat) (hd : decode (mC M) pc = .ok (.lstore_n 0, 1)) (hi : 1 < mL M) (hn : pc + 1 = n) (k : Ev g M d n (some (.long x) :: none :: t) st h mc ms Q) : Ev g M d pc (a0 :: a1 :: t) (.long x :: st) h mc ms Q := ev_lstore_n n hd (by show stL _ 0 _ = _; simp [stL, stG, Value.category, stG_far]) hi hn k
theorem ev_ald0 {x : Nat} {t : List (Option Value)} (n : Nat) (hd : decode (mC M) pc = .ok (.aload_n 0, 1)) (hn : pc + 1 = n) (k : Ev g M d n (some (.ref x) :: t) (.ref x :: st) h mc ms Q) : Ev g M d pc (some (.ref x) :: t) st h mc ms Q := ev_aload_n n hd (by show ldL _ 0 = _; simp [ldL]) hn k
theorem ev_ast0 {a0 : Option Value} {x : Nat} {t : List (Option Value)} (n : Nat) (hd : decode (mC M) pc = .ok (.astore_n 0, 1)) (hi : 0 < mL M) (hn : pc + 1 = n) (k : Ev g M d n (some (.ref x) :: t) st h mc ms Q) : Ev g M d pc (a0 :: t) (.ref x :: st) h mc ms Q := ev_astore_n n hd (by show stL _ 0 _ = _; simp [stL, stG, Value.category, stG_far]) hi hn k
theorem ev_fld0 {x : UInt32} {t : List (Option Value)} (n : Nat) (hd : decode (mC M) pc = .ok (.fload_n 0, 1)) (hn : pc + 1 = n) (k : Ev g M d n (some (.float x) :: t) (.float x :: st) h mc ms Q) : Ev g M d pc (some (.float x) :: t) st h mc ms Q := ev_fload_n n hd (by show ldL _ 0 = _; simp [ldL]) hn k
theorem ev_fst0 {a0 : Option Value} {x : UInt32} {t : List (Option Value)} (n : Nat) (hd : decode (mC M) pc = .ok (.fstore_n 0, 1)) (hi : 0 < mL M) (hn : pc + 1 = n) (k : Ev g M d n (some (.float x) :: t) st h mc ms Q) : Ev g M d pc (a0 :: t) (.float x :: st) h mc ms Q := ev_fstore_n n hd (by show stL _ 0 _ = _; simp [stL, stG, Value.category, stG_far]) hi hn k
theorem ev_dld0 {x : UInt64} {t : List (Option Value)} (n : Nat) (hd : decode (mC M) pc = .ok (.dload_n 0, 1)) (hn : pc + 1 = n) (k : Ev g M d n (some (.double x) :: t) (.double x :: st) h mc ms Q) : Ev g M d pc (some (.double x) :: t) st h mc ms Q := ev_dload_n n hd (by show ldL _ 0 = _; simp [ldL]) hn k
theorem ev_dst0 {a0 a1 : Option Value} {x : UInt64} {t : List (Option Value)} (n : Nat) (hd : decode (mC M) pc = .ok (.dstore_n 0, 1)) (hi : 1 < mL M) (hn : pc + 1 = n) (k : Ev g M d n (some (.double x) :: none :: t) st h mc ms Q) : Ev g M d pc (a0 :: a1 :: t) (.double x :: st) h mc ms Q := ev_dstore_n n hd (by show stL _ 0 _ = _; simp [stL, stG, Value.category, stG_far]) hi hn k
theorem ev_inc0 {z : Int} {x : Int32} {t : List (Option Value)} (v : Int32) (n : Nat) (hd : decode (mC M) pc = .ok (.iinc 0 z, 3)) (hv : Int32.ofInt z = v) (hi : 0 < mL M) (hn : pc + 3 = n) (k : Ev g M d n (some (.int (x + v)) :: t) st h mc ms Q) : Ev g M d pc (some (.int x) :: t) st h mc ms Q := by
  subst hv
  exact ev_iinc (x := x) n hd (by simp [ldL]) (by show stL _ 0 _ = _; simp [stL, stG, Value.category, stG_far]) hi hn k
theorem ev_ild1 {a0 : Option Value} {x : Int32} {t : List (Option Value)} (n : Nat) (hd : decode (mC M) pc = .ok (.iload_n 1, 1)) (hn : pc + 1 = n) (k : Ev g M d n (a0 :: some (.int x) :: t) (.int x :: st) h mc ms Q) : Ev g M d pc (a0 :: some (.int x) :: t) st h mc ms Q := ev_iload_n n hd (by show ldL _ 1 = _; simp [ldL]) hn k
theorem ev_ist1 {a0 a1 : Option Value} {x : Int32} {t : List (Option Value)} (n : Nat) (hd : decode (mC M) pc = .ok (.istore_n 1, 1)) (hp : ca2 a0 = false) (hi : 1 < mL M) (hn : pc + 1 = n) (k : Ev g M d n (a0 :: some (.int x) :: t) st h mc ms Q) : Ev g M d pc (a0 :: a1 :: t) (.int x :: st) h mc ms Q := ev_istore_n n hd (by show stL _ 1 _ = _; simp [stL, stG, Value.category, stG_far, hp]) hi hn k
theorem ev_lld1 {a0 : Option Value} {x : Int64} {t : List (Option Value)} (n : Nat) (hd : decode (mC M) pc = .ok (.lload_n 1, 1)) (hn : pc + 1 = n) (k : Ev g M d n (a0 :: some (.long x) :: t) (.long x :: st) h mc ms Q) : Ev g M d pc (a0 :: some (.long x) :: t) st h mc ms Q := ev_lload_n n hd (by show ldL _ 1 = _; simp [ldL]) hn k
theorem ev_lst1 {a0 a1 a2 : Option Value} {x : Int64} {t : List (Option Value)} (n : Nat) (hd : decode (mC M) pc = .ok (.lstore_n 1, 1)) (hp : ca2 a0 = false) (hi : 2 < mL M) (hn : pc + 1 = n) (k : Ev g M d n (a0 :: some (.long x) :: none :: t) st h mc ms Q) : Ev g M d pc (a0 :: a1 :: a2 :: t) (.long x :: st) h mc ms Q := ev_lstore_n n hd (by show stL _ 1 _ = _; simp [stL, stG, Value.category, stG_far, hp]) hi hn k
theorem ev_ald1 {a0 : Option Value} {x : Nat} {t : List (Option Value)} (n : Nat) (hd : decode (mC M) pc = .ok (.aload_n 1, 1)) (hn : pc + 1 = n) (k : Ev g M d n (a0 :: some (.ref x) :: t) (.ref x :: st) h mc ms Q) : Ev g M d pc (a0 :: some (.ref x) :: t) st h mc ms Q := ev_aload_n n hd (by show ldL _ 1 = _; simp [ldL]) hn k
theorem ev_ast1 {a0 a1 : Option Value} {x : Nat} {t : List (Option Value)} (n : Nat) (hd : decode (mC M) pc = .ok (.astore_n 1, 1)) (hp : ca2 a0 = false) (hi : 1 < mL M) (hn : pc + 1 = n) (k : Ev g M d n (a0 :: some (.ref x) :: t) st h mc ms Q) : Ev g M d pc (a0 :: a1 :: t) (.ref x :: st) h mc ms Q := ev_astore_n n hd (by show stL _ 1 _ = _; simp [stL, stG, Value.category, stG_far, hp]) hi hn k
theorem ev_fld1 {a0 : Option Value} {x : UInt32} {t : List (Option Value)} (n : Nat) (hd : decode (mC M) pc = .ok (.fload_n 1, 1)) (hn : pc + 1 = n) (k : Ev g M d n (a0 :: some (.float x) :: t) (.float x :: st) h mc ms Q) : Ev g M d pc (a0 :: some (.float x) :: t) st h mc ms Q := ev_fload_n n hd (by show ldL _ 1 = _; simp [ldL]) hn k
theorem ev_fst1 {a0 a1 : Option Value} {x : UInt32} {t : List (Option Value)} (n : Nat) (hd : decode (mC M) pc = .ok (.fstore_n 1, 1)) (hp : ca2 a0 = false) (hi : 1 < mL M) (hn : pc + 1 = n) (k : Ev g M d n (a0 :: some (.float x) :: t) st h mc ms Q) : Ev g M d pc (a0 :: a1 :: t) (.float x :: st) h mc ms Q := ev_fstore_n n hd (by show stL _ 1 _ = _; simp [stL, stG, Value.category, stG_far, hp]) hi hn k
theorem ev_dld1 {a0 : Option Value} {x : UInt64} {t : List (Option Value)} (n : Nat) (hd : decode (mC M) pc = .ok (.dload_n 1, 1)) (hn : pc + 1 = n) (k : Ev g M d n (a0 :: some (.double x) :: t) (.double x :: st) h mc ms Q) : Ev g M d pc (a0 :: some (.double x) :: t) st h mc ms Q := ev_dload_n n hd (by show ldL _ 1 = _; simp [ldL]) hn k
theorem ev_dst1 {a0 a1 a2 : Option Value} {x : UInt64} {t : List (Option Value)} (n : Nat) (hd : decode (mC M) pc = .ok (.dstore_n 1, 1)) (hp : ca2 a0 = false) (hi : 2 < mL M) (hn : pc + 1 = n) (k : Ev g M d n (a0 :: some (.double x) :: none :: t) st h mc ms Q) : Ev g M d pc (a0 :: a1 :: a2 :: t) (.double x :: st) h mc ms Q := ev_dstore_n n hd (by show stL _ 1 _ = _; simp [stL, stG, Value.category, stG_far, hp]) hi hn k
theorem ev_inc1 {a0 : Option Value} {z : Int} {x : Int32} {t : List (Option Value)} (v : Int32) (n : Nat) (hd : decode (mC M) pc = .ok (.iinc 1 z, 3)) (hv : Int32.ofInt z = v) (hp : ca2 a0 = false) (hi : 1 < mL M) (hn : pc + 3 = n) (k : Ev g M d n (a0 :: some (.int (x + v)) :: t) st h mc ms Q) : Ev g M d pc (a0 :: some (.int x) :: t) st h mc ms Q := by
  subst hv
  exact ev_iinc (x := x) n hd (by simp [ldL]) (by show stL _ 1 _ = _; simp [stL, stG, Value.category, stG_far, hp]) hi hn k
theorem ev_ild2 {a0 a1 : Option Value} {x : Int32} {t : List (Option Value)} (n : Nat) (hd : decode (mC M) pc = .ok (.iload_n 2, 1)) (hn : pc + 1 = n) (k : Ev g M d n (a0 :: a1 :: some (.int x) :: t) (.int x :: st) h mc ms Q) : Ev g M d pc (a0 :: a1 :: some (.int x) :: t) st h mc ms Q := ev_iload_n n hd (by show ldL _ 2 = _; simp [ldL]) hn k
theorem ev_ist2 {a0 a1 a2 : Option Value} {x : Int32} {t : List (Option Value)} (n : Nat) (hd : decode (mC M) pc = .ok (.istore_n 2, 1)) (hp : ca2 a1 = false) (hi : 2 < mL M) (hn : pc + 1 = n) (k : Ev g M d n (a0 :: a1 :: some (.int x) :: t) st h mc ms Q) : Ev g M d pc (a0 :: a1 :: a2 :: t) (.int x :: st) h mc ms Q := ev_istore_n n hd (by show stL _ 2 _ = _; simp [stL, stG, Value.category, stG_far, hp]) hi hn k
theorem ev_lld2 {a0 a1 : Option Value} {x : Int64} {t : List (Option Value)} (n : Nat) (hd : decode (mC M) pc = .ok (.lload_n 2, 1)) (hn : pc + 1 = n) (k : Ev g M d n (a0 :: a1 :: some (.long x) :: t) (.long x :: st) h mc ms Q) : Ev g M d pc (a0 :: a1 :: some (.long x) :: t) st h mc ms Q := ev_lload_n n hd (by show ldL _ 2 = _; simp [ldL]) hn k
theorem ev_lst2 {a0 a1 a2 a3 : Option Value} {x : Int64} {t : List (Option Value)} (n : Nat) (hd : decode (mC M) pc = .ok (.lstore_n 2, 1)) (hp : ca2 a1 = false) (hi : 3 < mL M) (hn : pc + 1 = n) (k : Ev g M d n (a0 :: a1 :: some (.long x) :: none :: t) st h mc ms Q) : Ev g M d pc (a0 :: a1 :: a2 :: a3 :: t) (.long x :: st) h mc ms Q := ev_lstore_n n hd (by show stL _ 2 _ = _; simp [stL, stG, Value.category, stG_far, hp]) hi hn k
theorem ev_ald2 {a0 a1 : Option Value} {x : Nat} {t : List (Option Value)} (n : Nat) (hd : decode (mC M) pc = .ok (.aload_n 2, 1)) (hn : pc + 1 = n) (k : Ev g M d n (a0 :: a1 :: some (.ref x) :: t) (.ref x :: st) h mc ms Q) : Ev g M d pc (a0 :: a1 :: some (.ref x) :: t) st h mc ms Q := ev_aload_n n hd (by show ldL _ 2 = _; simp [ldL]) hn k
theorem ev_ast2 {a0 a1 a2 : Option Value} {x : Nat} {t : List (Option Value)} (n : Nat) (hd : decode (mC M) pc = .ok (.astore_n 2, 1)) (hp : ca2 a1 = false) (hi : 2 < mL M) (hn : pc + 1 = n) (k : Ev g M d n (a0 :: a1 :: some (.ref x) :: t) st h mc ms Q) : Ev g M d pc (a0 :: a1 :: a2 :: t) (.ref x :: st) h mc ms Q := ev_astore_n n hd (by show stL _ 2 _ = _; simp [stL, stG, Value.category, stG_far, hp]) hi hn k
theorem ev_fld2 {a0 a1 : Option Value} {x : UInt32} {t : List (Option Value)} (n : Nat) (hd : decode (mC M) pc = .ok (.fload_n 2, 1)) (hn : pc + 1 = n) (k : Ev g M d n (a0 :: a1 :: some (.float x) :: t) (.float x :: st) h mc ms Q) : Ev g M d pc (a0 :: a1 :: some (.float x) :: t) st h mc ms Q := ev_fload_n n hd (by show ldL _ 2 = _; simp [ldL]) hn k
theorem ev_fst2 {a0 a1 a2 : Option Value} {x : UInt32} {t : List (Option Value)} (n : Nat) (hd : decode (mC M) pc = .ok (.fstore_n 2, 1)) (hp : ca2 a1 = false) (hi : 2 < mL M) (hn : pc + 1 = n) (k : Ev g M d n (a0 :: a1 :: some (.float x) :: t) st h mc ms Q) : Ev g M d pc (a0 :: a1 :: a2 :: t) (.float x :: st) h mc ms Q := ev_fstore_n n hd (by show stL _ 2 _ = _; simp [stL, stG, Value.category, stG_far, hp]) hi hn k
theorem ev_dld2 {a0 a1 : Option Value} {x : UInt64} {t : List (Option Value)} (n : Nat) (hd : decode (mC M) pc = .ok (.dload_n 2, 1)) (hn : pc + 1 = n) (k : Ev g M d n (a0 :: a1 :: some (.double x) :: t) (.double x :: st) h mc ms Q) : Ev g M d pc (a0 :: a1 :: some (.double x) :: t) st h mc ms Q := ev_dload_n n hd (by show ldL _ 2 = _; simp [ldL]) hn k
theorem ev_dst2 {a0 a1 a2 a3 : Option Value} {x : UInt64} {t : List (Option Value)} (n : Nat) (hd : decode (mC M) pc = .ok (.dstore_n 2, 1)) (hp : ca2 a1 = false) (hi : 3 < mL M) (hn : pc + 1 = n) (k : Ev g M d n (a0 :: a1 :: some (.double x) :: none :: t) st h mc ms Q) : Ev g M d pc (a0 :: a1 :: a2 :: a3 :: t) (.double x :: st) h mc ms Q := ev_dstore_n n hd (by show stL _ 2 _ = _; simp [stL, stG, Value.category, stG_far, hp]) hi hn k
theorem ev_inc2 {a0 a1 : Option Value} {z : Int} {x : Int32} {t : List (Option Value)} (v : Int32) (n : Nat) (hd : decode (mC M) pc = .ok (.iinc 2 z, 3)) (hv : Int32.ofInt z = v) (hp : ca2 a1 = false) (hi : 2 < mL M) (hn : pc + 3 = n) (k : Ev g M d n (a0 :: a1 :: some (.int (x + v)) :: t) st h mc ms Q) : Ev g M d pc (a0 :: a1 :: some (.int x) :: t) st h mc ms Q := by
  subst hv
  exact ev_iinc (x := x) n hd (by simp [ldL]) (by show stL _ 2 _ = _; simp [stL, stG, Value.category, stG_far, hp]) hi hn k
theorem ev_ild3 {a0 a1 a2 : Option Value} {x : Int32} {t : List (Option Value)} (n : Nat) (hd : decode (mC M) pc = .ok (.iload_n 3, 1)) (hn : pc + 1 = n) (k : Ev g M d n (a0 :: a1 :: a2 :: some (.int x) :: t) (.int x :: st) h mc ms Q) : Ev g M d pc (a0 :: a1 :: a2 :: some (.int x) :: t) st h mc ms Q := ev_iload_n n hd (by show ldL _ 3 = _; simp [ldL]) hn k
theorem ev_ist3 {a0 a1 a2 a3 : Option Value} {x : Int32} {t : List (Option Value)} (n : Nat) (hd : decode (mC M) pc = .ok (.istore_n 3, 1)) (hp : ca2 a2 = false) (hi : 3 < mL M) (hn : pc + 1 = n) (k : Ev g M d n (a0 :: a1 :: a2 :: some (.int x) :: t) st h mc ms Q) : Ev g M d pc (a0 :: a1 :: a2 :: a3 :: t) (.int x :: st) h mc ms Q := ev_istore_n n hd (by show stL _ 3 _ = _; simp [stL, stG, Value.category, stG_far, hp]) hi hn k
theorem ev_lld3 {a0 a1 a2 : Option Value} {x : Int64} {t : List (Option Value)} (n : Nat) (hd : decode (mC M) pc = .ok (.lload_n 3, 1)) (hn : pc + 1 = n) (k : Ev g M d n (a0 :: a1 :: a2 :: some (.long x) :: t) (.long x :: st) h mc ms Q) : Ev g M d pc (a0 :: a1 :: a2 :: some (.long x) :: t) st h mc ms Q := ev_lload_n n hd (by show ldL _ 3 = _; simp [ldL]) hn k
theorem ev_lst3 {a0 a1 a2 a3 a4 : Option Value} {x : Int64} {t : List (Option Value)} (n : Nat) (hd : decode (mC M) pc = .ok (.lstore_n 3, 1)) (hp : ca2 a2 = false) (hi : 4 < mL M) (hn : pc + 1 = n) (k : Ev g M d n (a0 :: a1 :: a2 :: some (.long x) :: none :: t) st h mc ms Q) : Ev g M d pc (a0 :: a1 :: a2 :: a3 :: a4 :: t) (.long x :: st) h mc ms Q := ev_lstore_n n hd (by show stL _ 3 _ = _; simp [stL, stG, Value.category, stG_far, hp]) hi hn k
theorem ev_ald3 {a0 a1 a2 : Option Value} {x : Nat} {t : List (Option Value)} (n : Nat) (hd : decode (mC M) pc = .ok (.aload_n 3, 1)) (hn : pc + 1 = n) (k : Ev g M d n (a0 :: a1 :: a2 :: some (.ref x) :: t) (.ref x :: st) h mc ms Q) : Ev g M d pc (a0 :: a1 :: a2 :: some (.ref x) :: t) st h mc ms Q := ev_aload_n n hd (by show ldL _ 3 = _; simp [ldL]) hn k
theorem ev_ast3 {a0 a1 a2 a3 : Option Value} {x : Nat} {t : List (Option Value)} (n : Nat) (hd : decode (mC M) pc = .ok (.astore_n 3, 1)) (hp : ca2 a2 = false) (hi : 3 < mL M) (hn : pc + 1 = n) (k : Ev g M d n (a0 :: a1 :: a2 :: some (.ref x) :: t) st h mc ms Q) : Ev g M d pc (a0 :: a1 :: a2 :: a3 :: t) (.ref x :: st) h mc ms Q := ev_astore_n n hd (by show stL _ 3 _ = _; simp [stL, stG, Value.category, stG_far, hp]) hi hn k
theorem ev_fld3 {a0 a1 a2 : Option Value} {x : UInt32} {t : List (Option Value)} (n : Nat) (hd : decode (mC M) pc = .ok (.fload_n 3, 1)) (hn : pc + 1 = n) (k : Ev g M d n (a0 :: a1 :: a2 :: some (.float x) :: t) (.float x :: st) h mc ms Q) : Ev g M d pc (a0 :: a1 :: a2 :: some (.float x) :: t) st h mc ms Q := ev_fload_n n hd (by show ldL _ 3 = _; simp [ldL]) hn k
theorem ev_fst3 {a0 a1 a2 a3 : Option Value} {x : UInt32} {t : List (Option Value)} (n : Nat) (hd : decode (mC M) pc = .ok (.fstore_n 3, 1)) (hp : ca2 a2 = false) (hi : 3 < mL M) (hn : pc + 1 = n) (k : Ev g M d n (a0 :: a1 :: a2 :: some (.float x) :: t) st h mc ms Q) : Ev g M d pc (a0 :: a1 :: a2 :: a3 :: t) (.float x :: st) h mc ms Q := ev_fstore_n n hd (by show stL _ 3 _ = _; simp [stL, stG, Value.category, stG_far, hp]) hi hn k
theorem ev_dld3 {a0 a1 a2 : Option Value} {x : UInt64} {t : List (Option Value)} (n : Nat) (hd : decode (mC M) pc = .ok (.dload_n 3, 1)) (hn : pc + 1 = n) (k : Ev g M d n (a0 :: a1 :: a2 :: some (.double x) :: t) (.double x :: st) h mc ms Q) : Ev g M d pc (a0 :: a1 :: a2 :: some (.double x) :: t) st h mc ms Q := ev_dload_n n hd (by show ldL _ 3 = _; simp [ldL]) hn k
theorem ev_dst3 {a0 a1 a2 a3 a4 : Option Value} {x : UInt64} {t : List (Option Value)} (n : Nat) (hd : decode (mC M) pc = .ok (.dstore_n 3, 1)) (hp : ca2 a2 = false) (hi : 4 < mL M) (hn : pc + 1 = n) (k : Ev g M d n (a0 :: a1 :: a2 :: some (.double x) :: none :: t) st h mc ms Q) : Ev g M d pc (a0 :: a1 :: a2 :: a3 :: a4 :: t) (.double x :: st) h mc ms Q := ev_dstore_n n hd (by show stL _ 3 _ = _; simp [stL, stG, Value.category, stG_far, hp]) hi hn k
theorem ev_inc3 {a0 a1 a2 : Option Value} {z : Int} {x : Int32} {t : List (Option Value)} (v : Int32) (n : Nat) (hd : decode (mC M) pc = .ok (.iinc 3 z, 3)) (hv : Int32.ofInt z = v) (hp : ca2 a2 = false) (hi : 3 < mL M) (hn : pc + 3 = n) (k : Ev g M d n (a0 :: a1 :: a2 :: some (.int (x + v)) :: t) st h mc ms Q) : Ev g M d pc (a0 :: a1 :: a2 :: some (.int x) :: t) st h mc ms Q := by
  subst hv
  exact ev_iinc (x := x) n hd (by simp [ldL]) (by show stL _ 3 _ = _; simp [stL, stG, Value.category, stG_far, hp]) hi hn k
theorem ev_ild4 {a0 a1 a2 a3 : Option Value} {x : Int32} {t : List (Option Value)} (n : Nat) (hd : decode (mC M) pc = .ok (.iload 4, 2)) (hn : pc + 2 = n) (k : Ev g M d n (a0 :: a1 :: a2 :: a3 :: some (.int x) :: t) (.int x :: st) h mc ms Q) : Ev g M d pc (a0 :: a1 :: a2 :: a3 :: some (.int x) :: t) st h mc ms Q := ev_iload n hd (by show ldL _ 4 = _; simp [ldL]) hn k
theorem ev_ist4 {a0 a1 a2 a3 a4 : Option Value} {x : Int32} {t : List (Option Value)} (n : Nat) (hd : decode (mC M) pc = .ok (.istore 4, 2)) (hp : ca2 a3 = false) (hi : 4 < mL M) (hn : pc + 2 = n) (k : Ev g M d n (a0 :: a1 :: a2 :: a3 :: some (.int x) :: t) st h mc ms Q) : Ev g M d pc (a0 :: a1 :: a2 :: a3 :: a4 :: t) (.int x :: st) h mc ms Q := ev_istore n hd (by show stL _ 4 _ = _; simp [stL, stG, Value.category, stG_far, hp]) hi hn k
theorem ev_lld4 {a0 a1 a2 a3 : Option Value} {x : Int64} {t : List (Option Value)} (n : Nat) (hd : decode (mC M) pc = .ok (.lload 4, 2)) (hn : pc + 2 = n) (k : Ev g M d n (a0 :: a1 :: a2 :: a3 :: some (.long x) :: t) (.long x :: st) h mc ms Q) : Ev g M d pc (a0 :: a1 :: a2 :: a3 :: some (.long x) :: t) st h mc ms Q := ev_lload n hd (by show ldL _ 4 = _; simp [ldL]) hn k
theorem ev_lst4 {a0 a1 a2 a3 a4 a5 : Option Value} {x : Int64} {t : List (Option Value)} (n : Nat) (hd : decode (mC M) pc = .ok (.lstore 4, 2)) (hp : ca2 a3 = false) (hi : 5 < mL M) (hn : pc + 2 = n) (k : Ev g M d n (a0 :: a1 :: a2 :: a3 :: some (.long x) :: none :: t) st h mc ms Q) : Ev g M d pc (a0 :: a1 :: a2 :: a3 :: a4 :: a5 :: t) (.long x :: st) h mc ms Q := ev_lstore n hd (by show stL _ 4 _ = _; simp [stL, stG, Value.category, stG_far, hp]) hi hn k
theorem ev_ald4 {a0 a1 a2 a3 : Option Value} {x : Nat} {t : List (Option Value)} (n : Nat) (hd : decode (mC M) pc = .ok (.aload 4, 2)) (hn : pc + 2 = n) (k : Ev g M d n (a0 :: a1 :: a2 :: a3 :: some (.ref x) :: t) (.ref x :: st) h mc ms Q) : Ev g M d pc (a0 :: a1 :: a2 :: a3 :: some (.ref x) :: t) st h mc ms Q := ev_aload n hd (by show ldL _ 4 = _; simp [ldL]) hn k
theorem ev_ast4 {a0 a1 a2 a3 a4 : Option Value} {x : Nat} {t : List (Option Value)} (n : Nat) (hd : decode (mC M) pc = .ok (.astore 4, 2)) (hp : ca2 a3 = false) (hi : 4 < mL M) (hn : pc + 2 = n) (k : Ev g M d n (a0 :: a1 :: a2 :: a3 :: some (.ref x) :: t) st h mc ms Q) : Ev g M d pc (a0 :: a1 :: a2 :: a3 :: a4 :: t) (.ref x :: st) h mc ms Q := ev_astore n hd (by show stL _ 4 _ = _; simp [stL, stG, Value.category, stG_far, hp]) hi hn k
theorem ev_fld4 {a0 a1 a2 a3 : Option Value} {x : UInt32} {t : List (Option Value)} (n : Nat) (hd : decode (mC M) pc = .ok (.fload 4, 2)) (hn : pc + 2 = n) (k : Ev g M d n (a0 :: a1 :: a2 :: a3 :: some (.float x) :: t) (.float x :: st) h mc ms Q) : Ev g M d pc (a0 :: a1 :: a2 :: a3 :: some (.float x) :: t) st h mc ms Q := ev_fload n hd (by show ldL _ 4 = _; simp [ldL]) hn k
theorem ev_fst4 {a0 a1 a2 a3 a4 : Option Value} {x : UInt32} {t : List (Option Value)} (n : Nat) (hd : decode (mC M) pc = .ok (.fstore 4, 2)) (hp : ca2 a3 = false) (hi : 4 < mL M) (hn : pc + 2 = n) (k : Ev g M d n (a0 :: a1 :: a2 :: a3 :: some (.float x) :: t) st h mc ms Q) : Ev g M d pc (a0 :: a1 :: a2 :: a3 :: a4 :: t) (.float x :: st) h mc ms Q := ev_fstore n hd (by show stL _ 4 _ = _; simp [stL, stG, Value.category, stG_far, hp]) hi hn k
theorem ev_dld4 {a0 a1 a2 a3 : Option Value} {x : UInt64} {t : List (Option Value)} (n : Nat) (hd : decode (mC M) pc = .ok (.dload 4, 2)) (hn : pc + 2 = n) (k : Ev g M d n (a0 :: a1 :: a2 :: a3 :: some (.double x) :: t) (.double x :: st) h mc ms Q) : Ev g M d pc (a0 :: a1 :: a2 :: a3 :: some (.double x) :: t) st h mc ms Q := ev_dload n hd (by show ldL _ 4 = _; simp [ldL]) hn k
theorem ev_dst4 {a0 a1 a2 a3 a4 a5 : Option Value} {x : UInt64} {t : List (Option Value)} (n : Nat) (hd : decode (mC M) pc = .ok (.dstore 4, 2)) (hp : ca2 a3 = false) (hi : 5 < mL M) (hn : pc + 2 = n) (k : Ev g M d n (a0 :: a1 :: a2 :: a3 :: some (.double x) :: none :: t) st h mc ms Q) : Ev g M d pc (a0 :: a1 :: a2 :: a3 :: a4 :: a5 :: t) (.double x :: st) h mc ms Q := ev_dstore n hd (by show stL _ 4 _ = _; simp [stL, stG, Value.category, stG_far, hp]) hi hn k
theorem ev_inc4 {a0 a1 a2 a3 : Option Value} {z : Int} {x : Int32} {t : List (Option Value)} (v : Int32) (n : Nat) (hd : decode (mC M) pc = .ok (.iinc 4 z, 3)) (hv : Int32.ofInt z = v) (hp : ca2 a3 = false) (hi : 4 < mL M) (hn : pc + 3 = n) (k : Ev g M d n (a0 :: a1 :: a2 :: a3 :: some (.int (x + v)) :: t) st h mc ms Q) : Ev g M d pc (a0 :: a1 :: a2 :: a3 :: some (.int x) :: t) st h mc ms Q := by
  subst hv
  exact ev_iinc (x := x) n hd (by simp [ldL]) (by show stL _ 4 _ = _; simp [stL, stG, Value.category, stG_far, hp]) hi hn k
theorem ev_ild5 {a0 a1 a2 a3 a4 : Option Value} {x : Int32} {t : List (Option Value)} (n : Nat) (hd : decode (mC M) pc = .ok (.iload 5, 2)) (hn : pc + 2 = n) (k : Ev g M d n (a0 :: a1 :: a2 :: a3 :: a4 :: some (.int x) :: t) (.int x :: st) h mc ms Q) : Ev g M d pc (a0 :: a1 :: a2 :: a3 :: a4 :: some (.int x) :: t) st h mc ms Q := ev_iload n hd (by show ldL _ 5 = _; simp [ldL]) hn k
theorem ev_ist5 {a0 a1 a2 a3 a4 a5 : Option Value} {x : Int32} {t : List (Option Value)} (n : Nat) (hd : decode (mC M) pc = .ok (.istore 5, 2)) (hp : ca2 a4 = false) (hi : 5 < mL M) (hn : pc + 2 = n) (k : Ev g M d n (a0 :: a1 :: a2 :: a3 :: a4 :: some (.int x) :: t) st h mc ms Q) : Ev g M d pc (a0 :: a1 :: a2 :: a3 :: a4 :: a5 :: t) (.int x :: st) h mc ms Q := ev_istore n hd (by show stL _ 5 _ = _; simp [stL, stG, Value.category, stG_far, hp]) hi hn k
theorem ev_lld5 {a0 a1 a2 a3 a4 : Option Value} {x : Int64} {t : List (Option Value)} (n : Nat) (hd : decode (mC M) pc = .ok (.lload 5, 2)) (hn : pc + 2 = n) (k : Ev g M d n (a0 :: a1 :: a2 :: a3 :: a4 :: some (.long x) :: t) (.long x :: st) h mc ms Q) : Ev g M d pc (a0 :: a1 :: a2 :: a3 :: a4 :: some (.long x) :: t) st h mc ms Q := ev_lload n hd (by show ldL _ 5 = _; simp [ldL]) hn k
theorem ev_lst5 {a0 a1 a2 a3 a4 a5 a6 : Option Value} {x : Int64} {t : List (Option Value)} (n : Nat) (hd : decode (mC M) pc = .ok (.lstore 5, 2)) (hp : ca2 a4 = false) (hi : 6 < mL M) (hn : pc + 2 = n) (k : Ev g M d n (a0 :: a1 :: a2 :: a3 :: a4 :: some (.long x) :: none :: t) st h mc ms Q) : Ev g M d pc (a0 :: a1 :: a2 :: a3 :: a4 :: a5 :: a6 :: t) (.long x :: st) h mc ms Q := ev_lstore n hd (by show stL _ 5 _ = _; simp [stL, stG, Value.category, stG_far, hp]) hi hn k
theorem ev_ald5 {a0 a1 a2 a3 a4 : Option Value} {x : Nat} {t : List (Option Value)} (n : Nat) (hd : decode (mC M) pc = .ok (.aload 5, 2)) (hn : pc + 2 = n) (k : Ev g M d n (a0 :: a1 :: a2 :: a3 :: a4 :: some (.ref x) :: t) (.ref x :: st) h mc ms Q) : Ev g M d pc (a0 :: a1 :: a2 :: a3 :: a4 :: some (.ref x) :: t) st h mc ms Q := ev_aload n hd (by show ldL _ 5 = _; simp [ldL]) hn k
theorem ev_ast5 {a0 a1 a2 a3 a4 a5 : Option Value} {x : Nat} {t : List (Option Value)} (n : Nat) (hd : decode (mC M) pc = .ok (.astore 5, 2)) (hp : ca2 a4 = false) (hi : 5 < mL M) (hn : pc + 2 = n) (k : Ev g M d n (a0 :: a1 :: a2 :: a3 :: a4 :: some (.ref x) :: t) st h mc ms Q) : Ev g M d pc (a0 :: a1 :: a2 :: a3 :: a4 :: a5 :: t) (.ref x :: st) h mc ms Q := ev_astore n hd (by show stL _ 5 _ = _; simp [stL, stG, Value.category, stG_far, hp]) hi hn k
theorem ev_fld5 {a0 a1 a2 a3 a4 : Option Value} {x : UInt32} {t : List (Option Value)} (n : Nat) (hd : decode (mC M) pc = .ok (.fload 5, 2)) (hn : pc + 2 = n) (k : Ev g M d n (a0 :: a1 :: a2 :: a3 :: a4 :: some (.float x) :: t) (.float x :: st) h mc ms Q) : Ev g M d pc (a0 :: a1 :: a2 :: a3 :: a4 :: some (.float x) :: t) st h mc ms Q := ev_fload n hd (by show ldL _ 5 = _; simp [ldL]) hn k
theorem ev_fst5 {a0 a1 a2 a3 a4 a5 : Option Value} {x : UInt32} {t : List (Option Value)} (n : Nat) (hd : decode (mC M) pc = .ok (.fstore 5, 2)) (hp : ca2 a4 = false) (hi : 5 < mL M) (hn : pc + 2 = n) (k : Ev g M d n (a0 :: a1 :: a2 :: a3 :: a4 :: some (.float x) :: t) st h mc ms Q) : Ev g M d pc (a0 :: a1 :: a2 :: a3 :: a4 :: a5 :: t) (.float x :: st) h mc ms Q := ev_fstore n hd (by show stL _ 5 _ = _; simp [stL, stG, Value.category, stG_far, hp]) hi hn k
theorem ev_dld5 {a0 a1 a2 a3 a4 : Option Value} {x : UInt64} {t : List (Option Value)} (n : Nat) (hd : decode (mC M) pc = .ok (.dload 5, 2)) (hn : pc + 2 = n) (k : Ev g M d n (a0 :: a1 :: a2 :: a3 :: a4 :: some (.double x) :: t) (.double x :: st) h mc ms Q) : Ev g M d pc (a0 :: a1 :: a2 :: a3 :: a4 :: some (.double x) :: t) st h mc ms Q := ev_dload n hd (by show ldL _ 5 = _; simp [ldL]) hn k
theorem ev_dst5 {a0 a1 a2 a3 a4 a5 a6 : Option Value} {x : UInt64} {t : List (Option Value)} (n : Nat) (hd : decode (mC M) pc = .ok (.dstore 5, 2)) (hp : ca2 a4 = false) (hi : 6 < mL M) (hn : pc + 2 = n) (k : Ev g M d n (a0 :: a1 :: a2 :: a3 :: a4 :: some (.double x) :: none :: t) st h mc ms Q) : Ev g M d pc (a0 :: a1 :: a2 :: a3 :: a4 :: a5 :: a6 :: t) (.double x :: st) h mc ms Q := ev_dstore n hd (by show stL _ 5 _ = _; simp [stL, stG, Value.category, stG_far, hp]) hi hn k
theorem ev_inc5 {a0 a1 a2 a3 a4 : Option Value} {z : Int} {x : Int32} {t : List (Option Value)} (v : Int32) (n : Nat) (hd : decode (mC M) pc = .ok (.iinc 5 z, 3)) (hv : Int32.ofInt z = v) (hp : ca2 a4 = false) (hi : 5 < mL M) (hn : pc + 3 = n) (k : Ev g M d n (a0 :: a1 :: a2 :: a3 :: a4 :: some (.int (x + v)) :: t) st h mc ms Q) : Ev g M d pc (a0 :: a1 :: a2 :: a3 :: a4 :: some (.int x) :: t) st h mc ms Q := by
  subst hv
  exact ev_iinc (x := x) n hd (by simp [ldL]) (by show stL _ 5 _ = _; simp [stL, stG, Value.category, stG_far, hp]) hi hn k
theorem ev_ild6 {a0 a1 a2 a3 a4 a5 : Option Value} {x : Int32} {t : List (Option Value)} (n : Nat) (hd : decode (mC M) pc = .ok (.iload 6, 2)) (hn : pc + 2 = n) (k : Ev g M d n (a0 :: a1 :: a2 :: a3 :: a4 :: a5 :: some (.int x) :: t) (.int x :: st) h mc ms Q) : Ev g M d pc (a0 :: a1 :: a2 :: a3 :: a4 :: a5 :: some (.int x) :: t) st h mc ms Q := ev_iload n hd (by show ldL _ 6 = _; simp [ldL]) hn k
theorem ev_ist6 {a0 a1 a2 a3 a4 a5 a6 : Option Value} {x : Int32} {t : List (Option Value)} (n : Nat) (hd : decode (mC M) pc = .ok (.istore 6, 2)) (hp : ca2 a5 = false) (hi : 6 < mL M) (hn : pc + 2 = n) (k : Ev g M d n (a0 :: a1 :: a2 :: a3 :: a4 :: a5 :: some (.int x) :: t) st h mc ms Q) : Ev g M d pc (a0 :: a1 :: a2 :: a3 :: a4 :: a5 :: a6 :: t) (.int x :: st) h mc ms Q := ev_istore n hd (by show stL _ 6 _ = _; simp [stL, stG, Value.category, stG_far, hp]) hi hn k
theorem ev_lld6 {a0 a1 a2 a3 a4 a5 : Option Value} {x : Int64} {t : List (Option Value)} (n : Nat) (hd : decode (mC M) pc = .ok (.lload 6, 2)) (hn : pc + 2 = n) (k : Ev g M d n (a0 :: a1 :: a2 :: a3 :: a4 :: a5 :: some (.long x) :: t) (.long x :: st) h mc ms Q) : Ev g M d pc (a0 :: a1 :: a2 :: a3 :: a4 :: a5 :: some (.long x) :: t) st h mc ms Q := ev_lload n hd (by show ldL _ 6 = _; simp [ldL]) hn k
theorem ev_lst6 {a0 a1 a2 a3 a4 a5 a6 a7 : Option Value} {x : Int64} {t : List (Option Value)} (n : Nat) (hd : decode (mC M) pc = .ok (.lstore 6, 2)) (hp : ca2 a5 = false) (hi : 7 < mL M) (hn : pc + 2 = n) (k : Ev g M d n (a0 :: a1 :: a2 :: a3 :: a4 :: a5 :: some (.long x) :: none :: t) st h mc ms Q) : Ev g M d pc (a0 :: a1 :: a2 :: a3 :: a4 :: a5 :: a6 :: a7 :: t) (.long x :: st) h mc ms Q := ev_lstore n hd (by show stL _ 6 _ = _; simp [stL, stG, Value.category, stG_far, hp]) hi hn k
theorem ev_ald6 {a0 a1 a2 a3 a4 a5 : Option Value} {x : Nat} {t : List (Option Value)} (n : Nat) (hd : decode (mC M) pc = .ok (.aload 6, 2)) (hn : pc + 2 = n) (k : Ev g M d n (a0 :: a1 :: a2 :: a3 :: a4 :: a5 :: some (.ref x) :: t) (.ref x :: st) h mc ms Q) : Ev g M d pc (a0 :: a1 :: a2 :: a3 :: a4 :: a5 :: some (.ref x) :: t) st h mc ms Q := ev_aload n hd (by show ldL _ 6 = _; simp [ldL]) hn k
theorem ev_ast6 {a0 a1 a2 a3 a4 a5 a6 : Option Value} {x : Nat} {t : List (Option Value)} (n : Nat) (hd : decode (mC M) pc = .ok (.astore 6, 2)) (hp : ca2 a5 = false) (hi : 6 < mL M) (hn : pc + 2 = n) (k : Ev g M d n (a0 :: a1 :: a2 :: a3 :: a4 :: a5 :: some (.ref x) :: t) st h mc ms Q) : Ev g M d pc (a0 :: a1 :: a2 :: a3 :: a4 :: a5 :: a6 :: t) (.ref x :: st) h mc ms Q := ev_astore n hd (by show stL _ 6 _ = _; simp [stL, stG, Value.category, stG_far, hp]) hi hn k
theorem ev_fld6 {a0 a1 a2 a3 a4 a5 : Option Value} {x : UInt32} {t : List (Option Value)} (n : Nat) (hd : decode (mC M) pc = .ok (.fload 6, 2)) (hn : pc + 2 = n) (k : Ev g M d n (a0 :: a1 :: a2 :: a3 :: a4 :: a5 :: some (.float x) :: t) (.float x :: st) h mc ms Q) : Ev g M d pc (a0 :: a1 :: a2 :: a3 :: a4 :: a5 :: some (.float x) :: t) st h mc ms Q := ev_fload n hd (by show ldL _ 6 = _; simp [ldL]) hn k
theorem ev_fst6 {a0 a1 a2 a3 a4 a5 a6 : Option Value} {x : UInt32} {t : List (Option Value)} (n : Nat) (hd : decode (mC M) pc = .ok (.fstore 6, 2)) (hp : ca2 a5 = false) (hi : 6 < mL M) (hn : pc + 2 = n) (k : Ev g M d n (a0 :: a1 :: a2 :: a3 :: a4 :: a5 :: some (.float x) :: t) st h mc ms Q) : Ev g M d pc (a0 :: a1 :: a2 :: a3 :: a4 :: a5 :: a6 :: t) (.float x :: st) h mc ms Q := ev_fstore n hd (by show stL _ 6 _ = _; simp [stL, stG, Value.category, stG_far, hp]) hi hn k
theorem ev_dld6 {a0 a1 a2 a3 a4 a5 : Option Value} {x : UInt64} {t : List (Option Value)} (n : Nat) (hd : decode (mC M) pc = .ok (.dload 6, 2)) (hn : pc + 2 = n) (k : Ev g M d n (a0 :: a1 :: a2 :: a3 :: a4 :: a5 :: some (.double x) :: t) (.double x :: st) h mc ms Q) : Ev g M d pc (a0 :: a1 :: a2 :: a3 :: a4 :: a5 :: some (.double x) :: t) st h mc ms Q := ev_dload n hd (by show ldL _ 6 = _; simp [ldL]) hn k
theorem ev_dst6 {a0 a1 a2 a3 a4 a5 a6 a7 : Option Value} {x : UInt64} {t : List (Option Value)} (n : Nat) (hd : decode (mC M) pc = .ok (.dstore 6, 2)) (hp : ca2 a5 = false) (hi : 7 < mL M) (hn : pc + 2 = n) (k : Ev g M d n (a0 :: a1 :: a2 :: a3 :: a4 :: a5 :: some (.double x) :: none :: t) st h mc ms Q) : Ev g M d pc (a0 :: a1 :: a2 :: a3 :: a4 :: a5 :: a6 :: a7 :: t) (.double x :: st) h mc ms Q := ev_dstore n hd (by show stL _ 6 _ = _; simp [stL, stG, Value.category, stG_far, hp]) hi hn k
theorem ev_inc6 {a0 a1 a2 a3 a4 a5 : Option Value} {z : Int} {x : Int32} {t : List (Option Value)} (v : Int32) (n : Nat) (hd : decode (mC M) pc = .ok (.iinc 6 z, 3)) (hv : Int32.ofInt z = v) (hp : ca2 a5 = false) (hi : 6 < mL M) (hn : pc + 3 = n) (k : Ev g M d n (a0 :: a1 :: a2 :: a3 :: a4 :: a5 :: some (.int (x + v)) :: t) st h mc ms Q) : Ev g M d pc (a0 :: a1 :: a2 :: a3 :: a4 :: a5 :: some (.int x) :: t) st h mc ms Q := by
  subst hv
  exact ev_iinc (x := x) n hd (by simp [ldL]) (by show stL _ 6 _ = _; simp [stL, stG, Value.category, stG_far, hp]) hi hn k
theorem ev_ild7 {a0 a1 a2 a3 a4 a5 a6 : Option Value} {x : Int32} {t : List (Option Value)} (n : Nat) (hd : decode (mC M) pc = .ok (.iload 7, 2)) (hn : pc + 2 = n) (k : Ev g M d n (a0 :: a1 :: a2 :: a3 :: a4 :: a5 :: a6 :: some (.int x) :: t) (.int x :: st) h mc ms Q) : Ev g M d pc (a0 :: a1 :: a2 :: a3 :: a4 :: a5 :: a6 :: some (.int x) :: t) st h mc ms Q := ev_iload n hd (by show ldL _ 7 = _; simp [ldL]) hn k
theorem ev_ist7 {a0 a1 a2 a3 a4 a5 a6 a7 : Option Value} {x : Int32} {t : List (Option Value)} (n : Nat) (hd : decode (mC M) pc = .ok (.istore 7, 2)) (hp : ca2 a6 = false) (hi : 7 < mL M) (hn : pc + 2 = n) (k : Ev g M d n (a0 :: a1 :: a2 :: a3 :: a4 :: a5 :: a6 :: some (.int x) :: t) st h mc ms Q) : Ev g M d pc (a0 :: a1 :: a2 :: a3 :: a4 :: a5 :: a6 :: a7 :: t) (.int x :: st) h mc ms Q := ev_istore n hd (by show stL _ 7 _ = _; simp [stL, stG, Value.category, stG_far, hp]) hi hn k
theorem ev_lld7 {a0 a1 a2 a3 a4 a5 a6 : Option Value} {x : Int64} {t : List (Option Value)} (n : Nat) (hd : decode (mC M) pc = .ok (.lload 7, 2)) (hn : pc + 2 = n) (k : Ev g M d n (a0 :: a1 :: a2 :: a3 :: a4 :: a5 :: a6 :: some (.long x) :: t) (.long x :: st) h mc ms Q) : Ev g M d pc (a0 :: a1 :: a2 :: a3 :: a4 :: a5 :: a6 :: some (.long x) :: t) st h mc ms Q := ev_lload n hd (by show ldL _ 7 = _; simp [ldL]) hn k
theorem ev_lst7 {a0 a1 a2 a3 a4 a5 a6 a7 a8 : Option Value} {x : Int64} {t : List (Option Value)} (n : Nat) (hd : decode (mC M) pc = .ok (.lstore 7, 2)) (hp : ca2 a6 = false) (hi : 8 < mL M) (hn : pc + 2 = n) (k : Ev g M d n (a0 :: a1 :: a2 :: a3 :: a4 :: a5 :: a6 :: some (.long x) :: none :: t) st h mc ms Q) : Ev g M d pc (a0 :: a1 :: a2 :: a3 :: a4 :: a5 :: a6 :: a7 :: a8 :: t) (.long x :: st) h mc ms Q := ev_lstore n hd (by show stL _ 7 _ = _; simp [stL, stG, Value.category, stG_far, hp]) hi hn k
theorem ev_ald7 {a0 a1 a2 a3 a4 a5 a6 : Option Value} {x : Nat} {t : List (Option Value)} (n : Nat) (hd : decode (mC M) pc = .ok (.aload 7, 2)) (hn : pc + 2 = n) (k : Ev g M d n (a0 :: a1 :: a2 :: a3 :: a4 :: a5 :: a6 :: some (.ref x) :: t) (.ref x :: st) h mc ms Q) : Ev g M d pc (a0 :: a1 :: a2 :: a3 :: a4 :: a5 :: a6 :: some (.ref x) :: t) st h mc ms Q := ev_aload n hd (by show ldL _ 7 = _; simp [ldL]) hn k
theorem ev_ast7 {a0 a1 a2 a3 a4 a5 a6 a7 : Option Value} {x : Nat} {t : List (Option Value)} (n : Nat) (hd : decode (mC M) pc = .ok (.astore 7, 2)) (hp : ca2 a6 = false) (hi : 7 < mL M) (hn : pc + 2 = n) (k : Ev g M d n (a0 :: a1 :: a2 :: a3 :: a4 :: a5 :: a6 :: some (.ref x) :: t) st h mc ms Q) : Ev g M d pc (a0 :: a1 :: a2 :: a3 :: a4 :: a5 :: a6 :: a7 :: t) (.ref x :: st) h mc ms Q := ev_astore n hd (by show stL _ 7 _ = _; simp [stL, stG, Value.category, stG_far, hp]) hi hn k
theorem ev_inc7 {a0 a1 a2 a3 a4 a5 a6 : Option Value} {z : Int} {x : Int32} {t : List (Option Value)} (v : Int32) (n : Nat) (hd : decode (mC M) pc = .ok (.iinc 7 z, 3)) (hv : Int32.ofInt z = v) (hp : ca2 a6 = false) (hi : 7 < mL M) (hn : pc + 3 = n) (k : Ev g M d n (a0 :: a1 :: a2 :: a3 :: a4 :: a5 :: a6 :: some (.int (x + v)) :: t) st h mc ms Q) : Ev g M d pc (a0 :: a1 :: a2 :: a3 :: a4 :: a5 :: a6 :: some (.int x) :: t) st h mc ms Q := by
  subst hv
  exact ev_iinc (x := x) n hd (by simp [ldL]) (by show stL _ 7 _ = _; simp [stL, stG, Value.category, stG_far, hp]) hi hn k
theorem ev_ild8 {a0 a1 a2 a3 a4 a5 a6 a7 : Option Value} {x : Int32} {t : List (Option Value)} (n : Nat) (hd : decode (mC M) pc = .ok (.iload 8, 2)) (hn : pc + 2 = n) (k : Ev g M d n (a0 :: a1 :: a2 :: a3 :: a4 :: a5 :: a6 :: a7 :: some (.int x) :: t) (.int x :: st) h mc ms Q) : Ev g M d pc (a0 :: a1 :: a2 :: a3 :: a4 :: a5 :: a6 :: a7 :: some (.int x) :: t) st h mc ms Q := ev_iload n hd (by show ldL _ 8 = _; simp [ldL]) hn k
theorem ev_ist8 {a0 a1 a2 a3 a4 a5 a6 a7 a8 : Option Value} {x : Int32} {t : List (Option Value)} (n : Nat) (hd : decode (mC M) pc = .ok (.istore 8, 2)) (hp : ca2 a7 = false) (hi : 8 < mL M) (hn : pc + 2 = n) (k : Ev g M d n (a0 :: a1 :: a2 :: a3 :: a4 :: a5 :: a6 :: a7 :: some (.int x) :: t) st h mc ms Q) : Ev g M d pc (a0 :: a1 :: a2 :: a3 :: a4 :: a5 :: a6 :: a7 :: a8 :: t) (.int x :: st) h mc ms Q := ev_istore n hd (by show stL _ 8 _ = _; simp [stL, stG, Value.category, stG_far, hp]) hi hn k
theorem ev_lld8 {a0 a1 a2 a3 a4 a5 a6 a7 : Option Value} {x : Int64} {t : List (Option Value)} (n : Nat) (hd : decode (mC M) pc = .ok (.lload 8, 2)) (hn : pc + 2 = n) (k : Ev g M d n (a0 :: a1 :: a2 :: a3 :: a4 :: a5 :: a6 :: a7 :: some (.long x) :: t) (.long x :: st) h mc ms Q) : Ev g M d pc (a0 :: a1 :: a2 :: a3 :: a4 :: a5 :: a6 :: a7 :: some (.long x) :: t) st h mc ms Q := ev_lload n hd (by show ldL _ 8 = _; simp [ldL]) hn k
theorem ev_lst8 {a0 a1 a2 a3 a4 a5 a6 a7 a8 a9 : Option Value} {x : Int64} {t : List (Option Value)} (n : Nat) (hd : decode (mC M) pc = .ok (.lstore 8, 2)) (hp : ca2 a7 = false) (hi : 9 < mL M) (hn : pc + 2 = n) (k : Ev g M d n (a0 :: a1 :: a2 :: a3 :: a4 :: a5 :: a6 :: a7 :: some (.long x) :: none :: t) st h mc ms Q) : Ev g M d pc (a0 :: a1 :: a2 :: a3 :: a4 :: a5 :: a6 :: a7 :: a8 :: a9 :: t) (.long x :: st) h mc ms Q := ev_lstore n hd (by show stL _ 8 _ = _; simp [stL, stG, Value.category, stG_far, hp]) hi hn k
theorem ev_ald8 {a0 a1 a2 a3 a4 a5 a6 a7 : Option Value} {x : Nat} {t : List (Option Value)} (n : Nat) (hd : decode (mC M) pc = .ok (.aload 8, 2)) (hn : pc + 2 = n) (k : Ev g M d n (a0 :: a1 :: a2 :: a3 :: a4 :: a5 :: a6 :: a7 :: some (.ref x) :: t) (.ref x :: st) h mc ms Q) : Ev g M d pc (a0 :: a1 :: a2 :: a3 :: a4 :: a5 :: a6 :: a7 :: some (.ref x) :: t) st h mc ms Q := ev_aload n hd (by show ldL _ 8 = _; simp [ldL]) hn k
theorem ev_ast8 {a0 a1 a2 a3 a4 a5 a6 a7 a8 : Option Value} {x : Nat} {t : List (Option Value)} (n : Nat) (hd : decode (mC M) pc = .ok (.astore 8, 2)) (hp : ca2 a7 = false) (hi : 8 < mL M) (hn : pc + 2 = n) (k : Ev g M d n (a0 :: a1 :: a2 :: a3 :: a4 :: a5 :: a6 :: a7 :: some (.ref x) :: t) st h mc ms Q) : Ev g M d pc (a0 :: a1 :: a2 :: a3 :: a4 :: a5 :: a6 :: a7 :: a8 :: t) (.ref x :: st) h mc ms Q := ev_astore n hd (by show stL _ 8 _ = _; simp [stL, stG, Value.category, stG_far, hp]) hi hn k
theorem ev_inc8 {a0 a1 a2 a3 a4 a5 a6 a7 : Option Value} {z : Int} {x : Int32} {t : List (Option Value)} (v : Int32) (n : Nat) (hd : decode (mC M) pc = .ok (.iinc 8 z, 3)) (hv : Int32.ofInt z = v) (hp : ca2 a7 = false) (hi : 8 < mL M) (hn : pc + 3 = n) (k : Ev g M d n (a0 :: a1 :: a2 :: a3 :: a4 :: a5 :: a6 :: a7 :: some (.int (x + v)) :: t) st h mc ms Q) : Ev g M d pc (a0 :: a1 :: a2 :: a3 :: a4 :: a5 :: a6 :: a7 :: some (.int x) :: t) st h mc ms Q := by
  subst hv
  exact ev_iinc (x := x) n hd (by simp [ldL]) (by show stL _ 8 _ = _; simp [stL, stG, Value.category, stG_far, hp]) hi hn k
theorem ev_ild9 {a0 a1 a2 a3 a4 a5 a6 a7 a8 : Option Value} {x : Int32} {t : List (Option Value)} (n : Nat) (hd : decode (mC M) pc = .ok (.iload 9, 2)) (hn : pc + 2 = n) (k : Ev g M d n (a0 :: a1 :: a2 :: a3 :: a4 :: a5 :: a6 :: a7 :: a8 :: some (.int x) :: t) (.int x :: st) h mc ms Q) : Ev g M d pc (a0 :: a1 :: a2 :: a3 :: a4 :: a5 :: a6 :: a7 :: a8 :: some (.int x) :: t) st h mc ms Q := ev_iload n hd (by show ldL _ 9 = _; simp [ldL]) hn k
theorem ev_ist9 {a0 a1 a2 a3 a4 a5 a6 a7 a8 a9 : Option Value} {x : Int32} {t : List (Option Value)} (n : Nat) (hd : decode (mC M) pc = .ok (.istore 9, 2)) (hp : ca2 a8 = false) (hi : 9 < mL M) (hn : pc + 2 = n) (k : Ev g M d n (a0 :: a1 :: a2 :: a3 :: a4 :: a5 :: a6 :: a7 :: a8 :: some (.int x) :: t) st h mc ms Q) : Ev g M d pc (a0 :: a1 :: a2 :: a3 :: a4 :: a5 :: a6 :: a7 :: a8 :: a9 :: t) (.int x :: st) h mc ms Q := ev_istore n hd (by show stL _ 9 _ = _; simp [stL, stG, Value.category, stG_far, hp]) hi hn k
theorem ev_lld9 {a0 a1 a2 a3 a4 a5 a6 a7 a8 : Option Value} {x : Int64} {t : List (Option Value)} (n : Nat) (hd : decode (mC M) pc = .ok (.lload 9, 2)) (hn : pc + 2 = n) (k : Ev g M d n (a0 :: a1 :: a2 :: a3 :: a4 :: a5 :: a6 :: a7 :: a8 :: some (.long x) :: t) (.long x :: st) h mc ms Q) : Ev g M d pc (a0 :: a1 :: a2 :: a3 :: a4 :: a5 :: a6 :: a7 :: a8 :: some (.long x) :: t) st h mc ms Q := ev_lload n hd (by show ldL _ 9 = _; simp [ldL]) hn k
theorem ev_lst9 {a0 a1 a2 a3 a4 a5 a6 a7 a8 a9 a10 : Option Value} {x : Int64} {t : List (Option Value)} (n : Nat) (hd : decode (mC M) pc = .ok (.lstore 9, 2)) (hp : ca2 a8 = false) (hi : 10 < mL M) (hn : pc + 2 = n) (k : Ev g M d n (a0 :: a1 :: a2 :: a3 :: a4 :: a5 :: a6 :: a7 :: a8 :: some (.long x) :: none :: t) st h mc ms Q) : Ev g M d pc (a0 :: a1 :: a2 :: a3 :: a4 :: a5 :: a6 :: a7 :: a8 :: a9 :: a10 :: t) (.long x :: st) h mc ms Q := ev_lstore n hd (by show stL _ 9 _ = _; simp [stL, stG, Value.category, stG_far, hp]) hi hn k
theorem ev_ald9 {a0 a1 a2 a3 a4 a5 a6 a7 a8 : Option Value} {x : Nat} {t : List (Option Value)} (n : Nat) (hd : decode (mC M) pc = .ok (.aload 9, 2)) (hn : pc + 2 = n) (k : Ev g M d n (a0 :: a1 :: a2 :: a3 :: a4 :: a5 :: a6 :: a7 :: a8 :: some (.ref x) :: t) (.ref x :: st) h mc ms Q) : Ev g M d pc (a0 :: a1 :: a2 :: a3 :: a4 :: a5 :: a6 :: a7 :: a8 :: some (.ref x) :: t) st h mc ms Q := ev_aload n hd (by show ldL _ 9 = _; simp [ldL]) hn k
theorem ev_ast9 {a0 a1 a2 a3 a4 a5 a6 a7 a8 a9 : Option Value} {x : Nat} {t : List (Option Value)} (n : Nat) (hd : decode (mC M) pc = .ok (.astore 9, 2)) (hp : ca2 a8 = false) (hi : 9 < mL M) (hn : pc + 2 = n) (k : Ev g M d n (a0 :: a1 :: a2 :: a3 :: a4 :: a5 :: a6 :: a7 :: a8 :: some (.ref x) :: t) st h mc ms Q) : Ev g M d pc (a0 :: a1 :: a2 :: a3 :: a4 :: a5 :: a6 :: a7 :: a8 :: a9 :: t) (.ref x :: st) h mc ms Q := ev_astore n hd (by show stL _ 9 _ = _; simp [stL, stG, Value.category, stG_far, hp]) hi hn k
theorem ev_inc9 {a0 a1 a2 a3 a4 a5 a6 a7 a8 : Option Value} {z : Int} {x : Int32} {t : List (Option Value)} (v : Int32) (n : Nat) (hd : decode (mC M) pc = .ok (.iinc 9 z, 3)) (hv : Int32.ofInt z = v) (hp : ca2 a8 = false) (hi : 9 < mL M) (hn : pc + 3 = n) (k : Ev g M d n (a0 :: a1 :: a2 :: a3 :: a4 :: a5 :: a6 :: a7 :: a8 :: some (.int (x + v)) :: t) st h mc ms Q) : Ev g M d pc (a0 :: a1 :: a2 :: a3 :: a4 :: a5 :: a6 :: a7 :: a8 :: some (.int x) :: t) st h mc ms Q := by
  subst hv
  exact ev_iinc (x := x) n hd (by simp [ldL]) (by show stL _ 9 _ = _; simp [stL, stG, Value.category, stG_far, hp]) hi hn k
theorem ev_ild10 {a0 a1 a2 a3 a4 a5 a6 a7 a8 a9 : Option Value} {x : Int32} {t : List (Option Value)} (n : Nat) (hd : decode (mC M) pc = .ok (.iload 10, 2)) (hn : pc + 2 = n) (k : Ev g M d n (a0 :: a1 :: a2 :: a3 :: a4 :: a5 :: a6 :: a7 :: a8 :: a9 :: some (.int x) :: t) (.int x :: st) h mc ms Q) : Ev g M d pc (a0 :: a1 :: a2 :: a3 :: a4 :: a5 :: a6 :: a7 :: a8 :: a9 :: some (.int x) :: t) st h mc ms Q := ev_iload n hd (by show ldL _ 10 = _; simp [ldL]) hn k
theorem ev_ist10 {a0 a1 a2 a3 a4 a5 a6 a7 a8 a9 a10 : Option Value} {x : Int32} {t : List (Option Value)} (n : Nat) (hd : decode (mC M) pc = .ok (.istore 10, 2)) (hp : ca2 a9 = false) (hi : 10 < mL M) (hn : pc + 2 = n) (k : Ev g M d n (a0 :: a1 :: a2 :: a3 :: a4 :: a5 :: a6 :: a7 :: a8 :: a9 :: some (.int x) :: t) st h mc ms Q) : Ev g M d pc (a0 :: a1 :: a2 :: a3 :: a4 :: a5 :: a6 :: a7 :: a8 :: a9 :: a10 :: t) (.int x :: st) h mc ms Q := ev_istore n hd (by show stL _ 10 _ = _; simp [stL, stG, Value.category, stG_far, hp]) hi hn k
theorem ev_lld10 {a0 a1 a2 a3 a4 a5 a6 a7 a8 a9 : Option Value} {x : Int64} {t : List (Option Value)} (n : Nat) (hd : decode (mC M) pc = .ok (.lload 10, 2)) (hn : pc + 2 = n) (k : Ev g M d n (a0 :: a1 :: a2 :: a3 :: a4 :: a5 :: a6 :: a7 :: a8 :: a9 :: some (.long x) :: t) (.long x :: st) h mc ms Q) : Ev g M d pc (a0 :: a1 :: a2 :: a3 :: a4 :: a5 :: a6 :: a7 :: a8 :: a9 :: some (.long x) :: t) st h mc ms Q := ev_lload n hd (by show ldL _ 10 = _; simp [ldL]) hn k
theorem ev_lst10 {a0 a1 a2 a3 a4 a5 a6 a7 a8 a9 a10 a11 : Option Value} {x : Int64} {t : List (Option Value)} (n : Nat) (hd : decode (mC M) pc = .ok (.lstore 10, 2)) (hp : ca2 a9 = false) (hi : 11 < mL M) (hn : pc + 2 = n) (k : Ev g M d n (a0 :: a1 :: a2 :: a3 :: a4 :: a5 :: a6 :: a7 :: a8 :: a9 :: some (.long x) :: none :: t) st h mc ms Q) : Ev g M d pc (a0 :: a1 :: a2 :: a3 :: a4 :: a5 :: a6 :: a7 :: a8 :: a9 :: a10 :: a11 :: t) (.long x :: st) h mc ms Q := ev_lstore n hd (by show stL _ 10 _ = _; simp [stL, stG, Value.category, stG_far, hp]) hi hn k
theorem ev_ald10 {a0 a1 a2 a3 a4 a5 a6 a7 a8 a9 : Option Value} {x : Nat} {t : List (Option Value)} (n : Nat) (hd : decode (mC M) pc = .ok (.aload 10, 2)) (hn : pc + 2 = n) (k : Ev g M d n (a0 :: a1 :: a2 :: a3 :: a4 :: a5 :: a6 :: a7 :: a8 :: a9 :: some (.ref x) :: t) (.ref x :: st) h mc ms Q) : Ev g M d pc (a0 :: a1 :: a2 :: a3 :: a4 :: a5 :: a6 :: a7 :: a8 :: a9 :: some (.ref x) :: t) st h mc ms Q := ev_aload n hd (by show ldL _ 10 = _; simp [ldL]) hn k
theorem ev_ast10 {a0 a1 a2 a3 a4 a5 a6 a7 a8 a9 a10 : Option Value} {x : Nat} {t : List (Option Value)} (n : Nat) (hd : decode (mC M) pc = .ok (.astore 10, 2)) (hp : ca2 a9 = false) (hi : 10 < mL M) (hn : pc + 2 = n) (k : Ev g M d n (a0 :: a1 :: a2 :: a3 :: a4 :: a5 :: a6 :: a7 :: a8 :: a9 :: some (.ref x) :: t) st h mc ms Q) : Ev g M d pc (a0 :: a1 :: a2 :: a3 :: a4 :: a5 :: a6 :: a7 :: a8 :: a9 :: a10 :: t) (.ref x :: st) h mc ms Q := ev_astore n hd (by show stL _ 10 _ = _; simp [stL, stG, Value.category, stG_far, hp]) hi hn k
theorem ev_inc10 {a0 a1 a2 a3 a4 a5 a6 a7 a8 a9 : Option Value} {z : Int} {x : Int32} {t : List (Option Value)} (v : Int32) (n : Nat) (hd : decode (mC M) pc = .ok (.iinc 10 z, 3)) (hv : Int32.ofInt z = v) (hp : ca2 a9 = false) (hi : 10 < mL M) (hn : pc + 3 = n) (k : Ev g M d n (a0 :: a1 :: a2 :: a3 :: a4 :: a5 :: a6 :: a7 :: a8 :: a9 :: some (.int (x + v)) :: t) st h mc ms Q) : Ev g M d pc (a0 :: a1 :: a2 :: a3 :: a4 :: a5 :: a6 :: a7 :: a8 :: a9 :: some (.int x) :: t) st h mc ms Q := by
  subst hv
  exact ev_iinc (x := x) n hd (by simp [ldL]) (by show stL _ 10 _ = _; simp [stL, stG, Value.category, stG_far, hp]) hi hn k
theorem ev_ild11 {a0 a1 a2 a3 a4 a5 a6 a7 a8 a9 a10 : Option Value} {x : Int32} {t : List (Option Value)} (n : Nat) (hd : decode (mC M) pc = .ok (.iload 11, 2)) (hn : pc + 2 = n) (k : Ev g M d n (a0 :: a1 :: a2 :: a3 :: a4 :: a5 :: a6 :: a7 :: a8 :: a9 :: a10 :: some (.int x) :: t) (.int x :: st) h mc ms Q) : Ev g M d pc (a0 :: a1 :: a2 :: a3 :: a4 :: a5 :: a6 :: a7 :: a8 :: a9 :: a10 :: some (.int x) :: t) st h mc ms Q := ev_iload n hd (by show ldL _ 11 = _; simp [ldL]) hn k
theorem ev_ist11 {a0 a1 a2 a3 a4 a5 a6 a7 a8 a9 a10 a11 : Option Value} {x : Int32} {t : List (Option Value)} (n : Nat) (hd : decode (mC M) pc = .ok (.istore 11, 2)) (hp : ca2 a10 = false) (hi : 11 < mL M) (hn : pc + 2 = n) (k : Ev g M d n (a0 :: a1 :: a2 :: a3 :: a4 :: a5 :: a6 :: a7 :: a8 :: a9 :: a10 :: some (.int x) :: t) st h mc ms Q) : Ev g M d pc (a0 :: a1 :: a2 :: a3 :: a4 :: a5 :: a6 :: a7 :: a8 :: a9 :: a10 :: a11 :: t) (.int x :: st) h mc ms Q := ev_istore n hd (by show stL _ 11 _ = _; simp [stL, stG, Value.category, stG_far, hp]) hi hn k
theorem ev_lld11 {a0 a1 a2 a3 a4 a5 a6 a7 a8 a9 a10 : Option Value} {x : Int64} {t : List (Option Value)} (n : Nat) (hd : decode (mC M) pc = .ok (.lload 11, 2)) (hn : pc + 2 = n) (k : Ev g M d n (a0 :: a1 :: a2 :: a3 :: a4 :: a5 :: a6 :: a7 :: a8 :: a9 :: a10 :: some (.long x) :: t) (.long x :: st) h mc ms Q) : Ev g M d pc (a0 :: a1 :: a2 :: a3 :: a4 :: a5 :: a6 :: a7 :: a8 :: a9 :: a10 :: some (.long x) :: t) st h mc ms Q := ev_lload n hd (by show ldL _ 11 = _; simp [ldL]) hn k
theorem ev_lst11 {a0 a1 a2 a3 a4 a5 a6 a7 a8 a9 a10 a11 a12 : Option Value} {x : Int64} {t : List (Option Value)} (n : Nat) (hd : decode (mC M) pc = .ok (.lstore 11, 2)) (hp : ca2 a10 = false) (hi : 12 < mL M) (hn : pc + 2 = n) (k : Ev g M d n (a0 :: a1 :: a2 :: a3 :: a4 :: a5 :: a6 :: a7 :: a8 :: a9 :: a10 :: some (.long x) :: none :: t) st h mc ms Q) : Ev g M d pc (a0 :: a1 :: a2 :: a3 :: a4 :: a5 :: a6 :: a7 :: a8 :: a9 :: a10 :: a11 :: a12 :: t) (.long x :: st) h mc ms Q := ev_lstore n hd (by show stL _ 11 _ = _; simp [stL, stG, Value.category, stG_far, hp]) hi hn k
theorem ev_ald11 {a0 a1 a2 a3 a4 a5 a6 a7 a8 a9 a10 : Option Value} {x : Nat} {t : List (Option Value)} (n : Nat) (hd : decode (mC M) pc = .ok (.aload 11, 2)) (hn : pc + 2 = n) (k : Ev g M d n (a0 :: a1 :: a2 :: a3 :: a4 :: a5 :: a6 :: a7 :: a8 :: a9 :: a10 :: some (.ref x) :: t) (.ref x :: st) h mc ms Q) : Ev g M d pc (a0 :: a1 :: a2 :: a3 :: a4 :: a5 :: a6 :: a7 :: a8 :: a9 :: a10 :: some (.ref x) :: t) st h mc ms Q := ev_aload n hd (by show ldL _ 11 = _; simp [ldL]) hn k
theorem ev_ast11 {a0 a1 a2 a3 a4 a5 a6 a7 a8 a9 a10 a11 : Option Value} {x : Nat} {t : List (Option Value)} (n : Nat) (hd : decode (mC M) pc = .ok (.astore 11, 2)) (hp : ca2 a10 = false) (hi : 11 < mL M) (hn : pc + 2 = n) (k : Ev g M d n (a0 :: a1 :: a2 :: a3 :: a4 :: a5 :: a6 :: a7 :: a8 :: a9 :: a10 :: some (.ref x) :: t) st h mc ms Q) : Ev g M d pc (a0 :: a1 :: a2 :: a3 :: a4 :: a5 :: a6 :: a7 :: a8 :: a9 :: a10 :: a11 :: t) (.ref x :: st) h mc ms Q := ev_astore n hd (by show stL _ 11 _ = _; simp [stL, stG, Value.category, stG_far, hp]) hi hn k
theorem ev_inc11 {a0 a1 a2 a3 a4 a5 a6 a7 a8 a9 a10 : Option Value} {z : Int} {x : Int32} {t : List (Option Value)} (v : Int32) (n : Nat) (hd : decode (mC M) pc = .ok (.iinc 11 z, 3)) (hv : Int32.ofInt z = v) (hp : ca2 a10 = false) (hi : 11 < mL M) (hn : pc + 3 = n) (k : Ev g M d n (a0 :: a1 :: a2 :: a3 :: a4 :: a5 :: a6 :: a7 :: a8 :: a9 :: a10 :: some (.int (x + v)) :: t) st h mc ms Q) : Ev g M d pc (a0 :: a1 :: a2 :: a3 :: a4 :: a5 :: a6 :: a7 :: a8 :: a9 :: a10 :: some (.int x) :: t) st h mc ms Q := by
  subst hv
  exact ev_iinc (x := x) n hd (by simp [ldL]) (by show stL _ 11 _ = _; simp [stL, stG, Value.category, stG_far, hp]) hi hn k
end EVL
/-! words -/
theorem pw_warm {w : Cond} {s U : State} (hw : pw w = true) (hW : s.WarmedH U.vm) (h : w.before #[] s = true) : w.before #[] U = true := by
  simp only [pw, Bool.or_eq_true] at hw
  rcases hw with hw | hw
  · exact word_at hW (good_of_word hw) h
  · cases w <;> first | (cases hw; done) | exact va_Nw.warmC hW h | exact va_Nw.warmD hW h | exact va_Nw.warmM hW h
theorem pw_any {w : Cond} {s : State} {A : Array Value} (hw : pw w = true) (h : w.before #[] s = true) : w.before A s = true := by
  simp only [pw, Bool.or_eq_true] at hw
  rcases hw with hw | hw
  · have hW : s.WarmedH s.vm := State.WarmedH.refl s
    exact word_at hW (good_of_word hw) h
  · cases w <;> first | (cases hw; done) | exact va_Nw.use rfl h
theorem AW.at {g : Gt} {s : State} {A : Array Value} (h : CTX g s) {w : Cond} (hm : w ∈ lw_tbl) (hw : pw w = true) : w.before A s = true := pw_any hw (h.1.2.1 w hm hw)
theorem CTX.warm {g : Gt} {s U : State} (h : CTX g s) (hW : s.WarmedH U.vm) (hz : gB g ≤ U.heap.size) (ho : ∀ a, a < gB g → U.heap[a]? = s.heap[a]?) : CTX g U := by
  obtain ⟨⟨k1, k2, k3, k4, k5, k6, kz, kt, km, kc, ko, ka⟩, k7, k8, k9, k10⟩ := h
  have ho' : ∀ a : Nat, a < s.heap.size → ¬ gF g a → U.heap[a]? = s.heap[a]? := fun a _ hn => ho a (Nat.not_le.mp hn)
  refine ⟨⟨va_K.moved hW.alike k1, fun w hm hw => pw_warm hw hW (k2 w hm hw), k3, (vx_Zq.moved hW.alike k4).kept ho', (vx_Zq.moved hW.alike k5).kept ho', fun q hq => ?_, (va_Z.moved hW.alike kz).kept ho', (va_T.moved hW.alike kt).kept ho', va_Mi.moved hW.alike km, fun q hq => va_Nc.moved hW.alike (kc q hq), va_AO.moved hW.alike ko, va_AOA.moved hW.alike ka⟩, hz, fun a ha => (ho a ha).trans (k8 a ha), (va_X.moved hW.alike k9).kept (ho _ k10), k10⟩
  obtain ⟨sa, hs⟩ := k6 q hq
  exact ⟨sa, vk_R.warm hW hs⟩
/-! the heap -/
def hup (h : AH) (a : Nat) (c : AC) : AH := fun q => if q = a then some c else h q
theorem hup_eq (h : AH) (a : Nat) (c : AC) : hup h a c a = some c := if_pos rfl
theorem hup_ne {h : AH} {a q : Nat} {c : AC} (n : q ≠ a) : hup h a c q = h q := if_neg n
def wsH (g : Gt) (h : AH) (n : Nat) : va_W := (List.range n).filterMap (fun a => if gB g ≤ a then (h a).map (fun c => (a, cvA g c)) else none)
theorem wsH_mem {g : Gt} {h : AH} {n : Nat} {q : Nat × va_E} (hq : q ∈ wsH g h n) : q.1 < n ∧ gB g ≤ q.1 ∧ ∃ c, h q.1 = some c ∧ q.2 = cvA g c := by
  obtain ⟨a, ha, hb⟩ := List.mem_filterMap.mp hq
  by_cases hz : gB g ≤ a
  · rw [if_pos hz] at hb
    cases hc : h a with
    | none => rw [hc] at hb; cases hb
    | some c =>
      rw [hc] at hb
      cases hb
      exact ⟨List.mem_range.mp ha, hz, c, hc, rfl⟩
  · rw [if_neg hz] at hb
    cases hb
theorem HR.lt {g : Gt} {h : AH} {H : Heap} (hh : HR g h H) {a : Nat} {c : AC} (ha : h a = some c) : a < H.size := (hh a c ha).lt
theorem wsH_in {g : Gt} {h : AH} {H : Heap} (hh : HR g h H) {a : Nat} {c : AC} (ha : h a = some c) (hb : gB g ≤ a) : (a, cvA g c) ∈ wsH g h H.size := by
  refine List.mem_filterMap.mpr ⟨a, List.mem_range.mpr (hh.lt ha), ?_⟩
  rw [if_pos hb, ha]
  rfl
theorem wsH_P {g : Gt} {h : AH} {H : Heap} (hh : HR g h H) : va_P (gD g) vwCl (wsH g h H.size) H := by
  intro k q hq
  obtain ⟨h1, h2, c, h3, h4⟩ := wsH_mem (List.mem_of_getElem? hq)
  have h5 := hh q.1 c h3
  rw [← h4] at h5
  exact h5
theorem wsH_nd (g : Gt) (h : AH) : ∀ (n : Nat), ((wsH g h n).map (·.1)).Nodup := by
  intro n
  induction n with
  | zero => simp [wsH]
  | succ n ih =>
    have e : wsH g h (n + 1) = wsH g h n ++ [n].filterMap (fun a => if gB g ≤ a then (h a).map (fun c => (a, cvA g c)) else none) := by
      rw [wsH, List.range_succ, List.filterMap_append]
      rfl
    rw [e, List.map_append]
    refine List.nodup_append.mpr ⟨ih, ?_, ?_⟩
    · cases hf : (if gB g ≤ n then (h n).map (fun c => (n, cvA g c)) else none) with
      | none => simp [hf]
      | some w => simp [hf]
    · intro x hx y hy hxy
      subst hxy
      obtain ⟨q, hq, e1⟩ := List.mem_map.mp hx
      obtain ⟨r, hr, e2⟩ := List.mem_map.mp hy
      have l1 := (wsH_mem hq).1
      obtain ⟨a, ha, hb⟩ := List.mem_filterMap.mp hr
      have : a = n := by simpa using ha
      subst this
      by_cases hz : gB g ≤ a
      · rw [if_pos hz] at hb
        cases hc : h a with
        | none => rw [hc] at hb; cases hb
        | some c =>
          rw [hc] at hb
          cases hb
          simp only at e2
          omega
      · rw [if_neg hz] at hb
        cases hb
theorem wsH_D (g : Gt) (h : AH) (n : Nat) : va_D (gF g) (wsH g h n) := by
  refine ⟨fun i j p q hi hj e => ?_, fun k q hq => (wsH_mem (List.mem_of_getElem? hq)).2.1⟩
  have hn := wsH_nd g h n
  have hi' : ((wsH g h n).map (·.1))[i]? = some p.1 := by rw [List.getElem?_map, hi]; rfl
  have hj' : ((wsH g h n).map (·.1))[j]? = some q.1 := by rw [List.getElem?_map, hj]; rfl
  have li := (List.getElem?_eq_some_iff.mp hi').1
  have lj := (List.getElem?_eq_some_iff.mp hj').1
  have gi := (List.getElem?_eq_some_iff.mp hi').2
  have gj := (List.getElem?_eq_some_iff.mp hj').2
  exact (List.getElem_inj hn).mp (gi.trans (e.trans gj.symm))
/-- behind a store -/
theorem HR.set {g : Gt} {h : AH} {H H1 H0 : Heap} {locs locs1 : List Loc} {a q0 : Nat} {c0 c : AC} {e : va_E} (hh : HR g h H) (hb : gB g ≤ H0.size) (hS : va_S (gF g) H0 H locs) (hS1 : va_S (gF g) H0 H1 locs1) (hq : (wsH g h H.size)[q0]? = some (a, cvA g c0)) (he : e = cvA g c) (hP : va_P (gD g) vwCl ((wsH g h H.size).set q0 (a, e)) H1) : HR g (hup h a c) H1 := by
  intro b cb hcb
  by_cases hba : b = a
  · subst hba
    rw [hup_eq] at hcb
    cases hcb
    have l := (List.getElem?_eq_some_iff.mp hq).1
    have := hP q0 (b, e) (by rw [List.getElem?_set_self l])
    rw [he] at this
    exact this
  · rw [hup_ne hba] at hcb
    by_cases hz : gB g ≤ b
    · obtain ⟨q1, hq1⟩ := List.getElem?_of_mem (wsH_in hh hcb hz)
      have hne : q0 ≠ q1 := by
        intro e
        subst e
        have e9 : (a, cvA g c0) = (b, cvA g cb) := Option.some.inj (hq.symm.trans hq1)
        exact hba (congrArg Prod.fst e9).symm
      exact hP q1 (b, cvA g cb) (by rw [List.getElem?_set_ne hne]; exact hq1)
    · have hn : ¬ gF g b := hz
      have lt : b < H0.size := Nat.lt_of_lt_of_le (Nat.not_le.mp hz) hb
      exact (hh b cb hcb).kept (((hS1.2.1 b lt hn)).trans (hS.2.1 b lt hn).symm)
/-- behind a making -/
theorem HR.new {g : Gt} {h : AH} {H H1 H0 : Heap} {locs locs1 : List Loc} {a : Nat} {c : AC} {e : va_E} (hh : HR g h H) (hb : gB g ≤ H0.size) (hS : va_S (gF g) H0 H locs) (hS1 : va_S (gF g) H0 H1 locs1) (he : e = cvA g c) (hP : va_P (gD g) vwCl (wsH g h H.size ++ [(a, e)]) H1) (hD : va_D (gF g) (wsH g h H.size ++ [(a, e)])) : h a = none ∧ gB g ≤ a ∧ HR g (hup h a c) H1 := by
  have hlast : (wsH g h H.size ++ [(a, e)])[(wsH g h H.size).length]? = some (a, e) := by simp
  have hga : gB g ≤ a := hD.2 _ _ hlast
  have hno : h a = none := by
    cases hc : h a with
    | none => rfl
    | some c1 =>
      obtain ⟨q1, hq1⟩ := List.getElem?_of_mem (wsH_in hh hc hga)
      have l := (List.getElem?_eq_some_iff.mp hq1).1
      have hq2 : (wsH g h H.size ++ [(a, e)])[q1]? = some (a, cvA g c1) := by rw [List.getElem?_append_left l]; exact hq1
      have := hD.1 _ _ _ _ hq2 hlast rfl
      omega
  refine ⟨hno, hga, ?_⟩
  intro b cb hcb
  by_cases hba : b = a
  · subst hba
    rw [hup_eq] at hcb
    cases hcb
    have := hP _ _ hlast
    rw [he] at this
    exact this
  · rw [hup_ne hba] at hcb
    by_cases hz : gB g ≤ b
    · obtain ⟨q1, hq1⟩ := List.getElem?_of_mem (wsH_in hh hcb hz)
      have l := (List.getElem?_eq_some_iff.mp hq1).1
      exact hP q1 (b, cvA g cb) (by rw [List.getElem?_append_left l]; exact hq1)
    · have hn : ¬ gF g b := hz
      have lt : b < H0.size := Nat.lt_of_lt_of_le (Nat.not_le.mp hz) hb
      exact (hh b cb hcb).kept (((hS1.2.1 b lt hn)).trans (hS.2.1 b lt hn).symm)
theorem HR.one {g : Gt} {h : AH} {H : Heap} (hh : HR g h H) {a : Nat} {c : AC} (ha : h a = some c) : va_P (gD g) vwCl [(a, cvA g c)] H := by
  intro k q hq
  have hz : k < 1 := (List.getElem?_eq_some_iff.mp hq).1
  rw [show k = 0 by omega] at hq
  cases hq
  exact hh a c ha
/-! links, said of the tables alone -/
def FL (own : String) (index ci k : Nat) : Prop := ∃ q : vw_C, vwCl[ci]? = some q ∧ k < q.2.2 ∧ (∀ w ∈ u_ws q.1 q.2.1 q.2.2, w ∈ lw_tbl ∧ pw w = true) ∧ Cond.fieldLink own index (q.2.1 k).1 (q.2.1 k).2.1 (q.2.1 k).2.2.1 ∈ lw_tbl
def FP (ci k : Nat) (ty : FieldType) (fin : Bool) : Prop := ∀ q : vw_C, vwCl[ci]? = some q → (∃ ty0 : Nat → FieldType, ∀ k, k < q.2.2 → parseFieldDescriptor (q.2.1 k).2.2.1 = some (ty0 k)) ∧ (∀ a, a < q.2.2 → ∀ b, b < q.2.2 → a ≠ b → (q.2.1 a).2.1 ≠ (q.2.1 b).2.1) ∧ (q.2.1 k).2.2.2 = fin ∧ parseFieldDescriptor (q.2.1 k).2.2.1 = some ty
section EVH
variable {g : Gt} {M : Mt} {d pc : Nat} {ls : List (Option Value)} {st : List Value} {h : AH} {mc ms : Nat} {Q : RT → AH → Prop}
theorem ev_getfield {a index : Nat} {fs : List Value} {v : Value} (n ci k : Nat) (F : FL (mY M).cls index ci k) (ha : h a = some (.inr (ci, fs))) (hv : fs[k]? = some v) (hd : decode (mC M) pc = .ok (.getfield index, 3)) (hn : pc + 3 = n) (kk : Ev g M d n ls (v :: st) h mc ms Q) : Ev g M d pc ls (.ref a :: st) h mc ms Q := by
  subst hn
  intro p e s m args below meth c H locs cells slots lsA tc ts hM hS hL h1 h2
  obtain ⟨q, f1, f2, f3, f4⟩ := F
  obtain ⟨m1, m2, m3, m4, m5, m6, m7, m8, m9⟩ := id hM
  refine va_get (D := gD g) (cl := vwCl) (tys := gT g) (ci := ci) (v := v) (C := q.1) (T := q.2.1) (N := q.2.2) (Ts := u_ws q.1 q.2.1 q.2.2) (own := (mY M).cls) m1 m2 (fun w hw => AW.at m9 (f3 w hw).1 (f3 w hw).2) (fun _ hw => hw) m4 m9.1.1 (hS.1.one ha) 0 rfl f1 k f2 (AW.at m9 f4 rfl) (fun _ z => z) hv hd ?_
  exact kk p e s m args below meth c H locs cells slots lsA tc ts hM hS hL h1 h2
theorem ev_putfield {a index : Nat} {fs : List Value} {v : Value} (n ci k : Nat) (ty : FieldType) (F : FL (mY M).cls index ci k) (P : FP ci k ty false) (ha : h a = some (.inr (ci, fs))) (hb : gB g ≤ a) (hnar : narrow ty v = v) (hfit : fits ty v = true) (hl : k < fs.length) (hd : decode (mC M) pc = .ok (.putfield index, 3)) (hn : pc + 3 = n) (kk : Ev g M d n ls st (hup h a (.inr (ci, fs.set k v))) mc ms Q) : Ev g M d pc ls (v :: .ref a :: st) h mc ms Q := by
  subst hn
  intro p e s m args below meth c H locs cells slots lsA tc ts hM hS hL h1 h2
  obtain ⟨q, f1, f2, f3, f4⟩ := F
  obtain ⟨⟨ty0, p1⟩, p2, p3, p4⟩ := P q f1
  obtain ⟨m1, m2, m3, m4, m5, m6, m7, m8, m9⟩ := id hM
  obtain ⟨q0, hq0⟩ := List.getElem?_of_mem (wsH_in hS.1 ha hb)
  refine va_put (D := gD g) (cl := vwCl) (tys := gT g) (ci := ci) (v := v) (ty := ty) (C := q.1) (T := q.2.1) (N := q.2.2) (Ts := u_ws q.1 q.2.1 q.2.2) (own := (mY M).cls) m1 m2 (fun w hw => AW.at m9 (f3 w hw).1 (f3 w hw).2) (fun _ hw => hw) ty0 p1 p2 m4 m9.1.1 (wsH_P hS.1) (wsH_D g h H.size) hS.2 q0 hq0 f1 k f2 (AW.at m9 f4 rfl) (fun _ z => z) p3 p4 hnar hfit hl hd (fun H1 locs1 hP1 hD1 hS1 => ?_)
  exact kk p e s m args below meth c H1 locs1 cells slots lsA tc ts hM ⟨hS.1.set m9.2.1 hS.2 hS1 hq0 rfl hP1, hS1⟩ hL h1 h2
theorem ev_putfin {a index : Nat} {fs : List Value} {v : Value} (n ci k : Nat) (ty : FieldType) (F : FL (mY M).cls index ci k) (P : FP ci k ty true) (hinit : (mY M).name = "<init>") (hdecl : ∀ q : vw_C, vwCl[ci]? = some q → (q.2.1 k).1 = (mY M).cls) (ha : h a = some (.inr (ci, fs))) (hb : gB g ≤ a) (hnar : narrow ty v = v) (hfit : fits ty v = true) (hl : k < fs.length) (hd : decode (mC M) pc = .ok (.putfield index, 3)) (hn : pc + 3 = n) (kk : Ev g M d n ls st (hup h a (.inr (ci, fs.set k v))) mc ms Q) : Ev g M d pc ls (v :: .ref a :: st) h mc ms Q := by
  subst hn
  intro p e s m args below meth c H locs cells slots lsA tc ts hM hS hL h1 h2
  obtain ⟨q, f1, f2, f3, f4⟩ := F
  obtain ⟨⟨ty0, p1⟩, p2, p3, p4⟩ := P q f1
  obtain ⟨m1, m2, m3, m4, m5, m6, m7, m8, m9⟩ := id hM
  obtain ⟨q0, hq0⟩ := List.getElem?_of_mem (wsH_in hS.1 ha hb)
  refine va_putF (D := gD g) (cl := vwCl) (tys := gT g) (ci := ci) (v := v) (ty := ty) (C := q.1) (T := q.2.1) (N := q.2.2) (Ts := u_ws q.1 q.2.1 q.2.2) (own := (mY M).cls) m1 m2 (fun w hw => AW.at m9 (f3 w hw).1 (f3 w hw).2) (fun _ hw => hw) ty0 p1 p2 m4 m9.1.1 (wsH_P hS.1) (wsH_D g h H.size) hS.2 q0 hq0 f1 k f2 (AW.at m9 f4 rfl) (fun _ z => z) p3 (m7.trans hinit) (hdecl q f1) p4 hnar hfit hl hd (fun H1 locs1 hP1 hD1 hS1 => ?_)
  exact kk p e s m args below meth c H1 locs1 cells slots lsA tc ts hM ⟨hS.1.set m9.2.1 hS.2 hS1 hq0 rfl hP1, hS1⟩ hL h1 h2
theorem ev_iaload {a len : Nat} {f : Nat → Int32} {i : Int32} (n : Nat) (ha : h a = some (.inl (0, len, .inl f))) (hin : vp_in i len) (hd : decode (mC M) pc = .ok (.iaload, 1)) (hn : pc + 1 = n) (kk : Ev g M d n ls (.int (f i.toNatClampNeg) :: st) h mc ms Q) : Ev g M d pc ls (.int i :: .ref a :: st) h mc ms Q := by
  subst hn
  intro p e s m args below meth c H locs cells slots lsA tc ts hM hS hL h1 h2
  exact va_iald hM.1 hM.2.1 hM.2.2.2.2.2.2.2.2.1.1 (hS.1.one ha) 0 0 rfl rfl hin hd (kk p e s m args below meth c H locs cells slots lsA tc ts hM hS hL h1 h2)
theorem ev_zaload {a len : Nat} {f : Nat → Int32} {i : Int32} (n : Nat) (ha : h a = some (.inl (1, len, .inl f))) (hin : vp_in i len) (hd : decode (mC M) pc = .ok (.baload, 1)) (hn : pc + 1 = n) (kk : Ev g M d n ls (.int (f i.toNatClampNeg) :: st) h mc ms Q) : Ev g M d pc ls (.int i :: .ref a :: st) h mc ms Q := by
  subst hn
  intro p e s m args below meth c H locs cells slots lsA tc ts hM hS hL h1 h2
  exact va_zald hM.1 hM.2.1 hM.2.2.2.2.2.2.2.2.1.1 (hS.1.one ha) 0 1 rfl rfl hin hd (kk p e s m args below meth c H locs cells slots lsA tc ts hM hS hL h1 h2)
theorem ev_caload {a len : Nat} {f : Nat → Int32} {i : Int32} (n : Nat) (ha : h a = some (.inl (2, len, .inl f))) (hin : vp_in i len) (hd : decode (mC M) pc = .ok (.caload, 1)) (hn : pc + 1 = n) (kk : Ev g M d n ls (.int (f i.toNatClampNeg) :: st) h mc ms Q) : Ev g M d pc ls (.int i :: .ref a :: st) h mc ms Q := by
  subst hn
  intro p e s m args below meth c H locs cells slots lsA tc ts hM hS hL h1 h2
  exact va_cald hM.1 hM.2.1 hM.2.2.2.2.2.2.2.2.1.1 (hS.1.one ha) 0 2 rfl rfl hin hd (kk p e s m args below meth c H locs cells slots lsA tc ts hM hS hL h1 h2)
theorem ev_alen {a ki : Nat} {x : vp_A} {ty : FieldType} (n : Nat) (ha : h a = some (.inl (ki, x))) (ht : (gT g)[ki]? = some (gA g ki, ty)) (hd : decode (mC M) pc = .ok (.arraylength, 1)) (hn : pc + 1 = n) (kk : Ev g M d n ls (.int (Int32.ofNat x.1) :: st) h mc ms Q) : Ev g M d pc ls (.ref a :: st) h mc ms Q := by
  subst hn
  intro p e s m args below meth c H locs cells slots lsA tc ts hM hS hL h1 h2
  exact va_alen hM.1 hM.2.1 hM.2.2.2.2.2.2.2.2.1.1 (hS.1.one ha) 0 ki rfl ht rfl hd (kk p e s m args below meth c H locs cells slots lsA tc ts hM hS hL h1 h2)
theorem ev_iastore {a len : Nat} {f : Nat → Int32} {i : Int32} {x : Int32} (n : Nat) (ha : h a = some (.inl (0, len, .inl f))) (hb : gB g ≤ a) (hin : vp_in i len) (hd : decode (mC M) pc = .ok (.iastore, 1)) (hn : pc + 1 = n) (kk : Ev g M d n ls st (hup h a (.inl (0, len, .inl (upd f i.toNatClampNeg x)))) mc ms Q) : Ev g M d pc ls (.int x :: .int i :: .ref a :: st) h mc ms Q := by
  subst hn
  intro p e s m args below meth c H locs cells slots lsA tc ts hM hS hL h1 h2
  obtain ⟨q0, hq0⟩ := List.getElem?_of_mem (wsH_in hS.1 ha hb)
  refine va_iast hM.1 hM.2.1 hM.2.2.2.2.2.2.2.2.1.1 (wsH_P hS.1) (wsH_D g h H.size) hS.2 q0 0 hq0 rfl hin hd (fun H1 locs1 hP1 hD1 hS1 => ?_)
  exact kk p e s m args below meth c H1 locs1 cells slots lsA tc ts hM ⟨hS.1.set hM.2.2.2.2.2.2.2.2.2.1 hS.2 hS1 hq0 rfl hP1, hS1⟩ hL h1 h2
theorem ev_zastore {a len : Nat} {f : Nat → Int32} {i : Int32} {x : Int32} (n : Nat) (ha : h a = some (.inl (1, len, .inl f))) (hb : gB g ≤ a) (hin : vp_in i len) (hx : x = 0 ∨ x = 1) (hd : decode (mC M) pc = .ok (.bastore, 1)) (hn : pc + 1 = n) (kk : Ev g M d n ls st (hup h a (.inl (1, len, .inl (upd f i.toNatClampNeg x)))) mc ms Q) : Ev g M d pc ls (.int x :: .int i :: .ref a :: st) h mc ms Q := by
  subst hn
  intro p e s m args below meth c H locs cells slots lsA tc ts hM hS hL h1 h2
  obtain ⟨q0, hq0⟩ := List.getElem?_of_mem (wsH_in hS.1 ha hb)
  refine va_zast hM.1 hM.2.1 hM.2.2.2.2.2.2.2.2.1.1 (wsH_P hS.1) (wsH_D g h H.size) hS.2 q0 1 hq0 rfl hin hd (fun H1 locs1 hP1 hD1 hS1 => ?_)
  exact kk p e s m args below meth c H1 locs1 cells slots lsA tc ts hM ⟨hS.1.set hM.2.2.2.2.2.2.2.2.2.1 hS.2 hS1 hq0 (by rw [show vp_nar .boolean x = x by rcases hx with e | e <;> subst e <;> decide]; rfl) hP1, hS1⟩ hL h1 h2
theorem ev_castore {a len : Nat} {f : Nat → Int32} {i : Int32} {x : Int32} (n : Nat) (ha : h a = some (.inl (2, len, .inl f))) (hb : gB g ≤ a) (hin : vp_in i len) (hx : vp_nar .char x = x) (hd : decode (mC M) pc = .ok (.castore, 1)) (hn : pc + 1 = n) (kk : Ev g M d n ls st (hup h a (.inl (2, len, .inl (upd f i.toNatClampNeg x)))) mc ms Q) : Ev g M d pc ls (.int x :: .int i :: .ref a :: st) h mc ms Q := by
  subst hn
  intro p e s m args below meth c H locs cells slots lsA tc ts hM hS hL h1 h2
  obtain ⟨q0, hq0⟩ := List.getElem?_of_mem (wsH_in hS.1 ha hb)
  refine va_cast hM.1 hM.2.1 hM.2.2.2.2.2.2.2.2.1.1 (wsH_P hS.1) (wsH_D g h H.size) hS.2 q0 2 hq0 rfl hin hd (fun H1 locs1 hP1 hD1 hS1 => ?_)
  exact kk p e s m args below meth c H1 locs1 cells slots lsA tc ts hM ⟨hS.1.set hM.2.2.2.2.2.2.2.2.2.1 hS.2 hS1 hq0 (by rw [hx]; rfl) hP1, hS1⟩ hL h1 h2
theorem ev_ireturn {v : Int32} (hq : Q (.inl (some (.int v))) h) (hr : mR M = some .int) (hd : decode (mC M) pc = .ok (.ireturn, 1)) : Ev g M d pc ls [.int v] h mc ms Q := by
  intro p e s m args below meth c H locs cells slots lsA tc ts hM hS hL h1 h2
  refine W.widen (k := tc) (n := ts) (by omega) (by omega) (vx_ret ?_)
  exact W.iret hM.1 hM.2.1 (hM.2.2.1.trans hr) (fun t ht hW => ⟨⟨_, h, rfl, hq, by rw [ht]; exact hS.1⟩, hS.2.F ht⟩) hS.2.2.2 hd hM.2.2.2.2.2.1
theorem ev_zreturn {v : Int32} {ty : FieldType} (hq : Q (.inl (some (.int v))) h) (hr : mR M = some ty) (hnar : narrow ty (.int v) = .int v) (hd : decode (mC M) pc = .ok (.ireturn, 1)) : Ev g M d pc ls [.int v] h mc ms Q := by
  intro p e s m args below meth c H locs cells slots lsA tc ts hM hS hL h1 h2
  refine W.widen (k := tc) (n := ts) (by omega) (by omega) (vx_ret ?_)
  exact W.zret hM.1 hM.2.1 (hM.2.2.1.trans hr) hnar (fun t ht hW => ⟨⟨_, h, rfl, hq, by rw [ht]; exact hS.1⟩, hS.2.F ht⟩) hS.2.2.2 hd hM.2.2.2.2.2.1
theorem ev_lreturn {v : Int64} (hq : Q (.inl (some (.long v))) h) (hr : mR M = some .long) (hd : decode (mC M) pc = .ok (.lreturn, 1)) : Ev g M d pc ls [.long v] h mc ms Q := by
  intro p e s m args below meth c H locs cells slots lsA tc ts hM hS hL h1 h2
  refine W.widen (k := tc) (n := ts) (by omega) (by omega) (vx_ret ?_)
  exact W.lret hM.1 hM.2.1 (hM.2.2.1.trans hr) (fun t ht hW => ⟨⟨_, h, rfl, hq, by rw [ht]; exact hS.1⟩, hS.2.F ht⟩) hS.2.2.2 hd hM.2.2.2.2.2.1
theorem ev_freturn {v : UInt32} (hq : Q (.inl (some (.float v))) h) (hr : mR M = some .float) (hd : decode (mC M) pc = .ok (.freturn, 1)) : Ev g M d pc ls [.float v] h mc ms Q := by
  intro p e s m args below meth c H locs cells slots lsA tc ts hM hS hL h1 h2
  refine W.widen (k := tc) (n := ts) (by omega) (by omega) (vx_ret ?_)
  exact W.fret hM.1 hM.2.1 (hM.2.2.1.trans hr) (fun t ht hW => ⟨⟨_, h, rfl, hq, by rw [ht]; exact hS.1⟩, hS.2.F ht⟩) hS.2.2.2 hd hM.2.2.2.2.2.1
theorem ev_dreturn {v : UInt64} (hq : Q (.inl (some (.double v))) h) (hr : mR M = some .double) (hd : decode (mC M) pc = .ok (.dreturn, 1)) : Ev g M d pc ls [.double v] h mc ms Q := by
  intro p e s m args below meth c H locs cells slots lsA tc ts hM hS hL h1 h2
  refine W.widen (k := tc) (n := ts) (by omega) (by omega) (vx_ret ?_)
  exact W.dret hM.1 hM.2.1 (hM.2.2.1.trans hr) (fun t ht hW => ⟨⟨_, h, rfl, hq, by rw [ht]; exact hS.1⟩, hS.2.F ht⟩) hS.2.2.2 hd hM.2.2.2.2.2.1
theorem ev_areturn {v : Nat} {nm : String} (hq : Q (.inl (some (.ref v))) h) (hr : mR M = some (.object nm)) (hd : decode (mC M) pc = .ok (.areturn, 1)) : Ev g M d pc ls [.ref v] h mc ms Q := by
  intro p e s m args below meth c H locs cells slots lsA tc ts hM hS hL h1 h2
  refine W.widen (k := tc) (n := ts) (by omega) (by omega) (vx_ret ?_)
  exact W.aret hM.1 hM.2.1 (hM.2.2.1.trans hr) (Or.inl ⟨_, rfl⟩) (Or.inr ⟨_, rfl⟩) (fun t ht hW => ⟨⟨_, h, rfl, hq, by rw [ht]; exact hS.1⟩, hS.2.F ht⟩) hS.2.2.2 hd hM.2.2.2.2.2.1
theorem ev_areturnA {v : Nat} {ty : FieldType} (hq : Q (.inl (some (.ref v))) h) (hr : mR M = some (.array ty)) (hd : decode (mC M) pc = .ok (.areturn, 1)) : Ev g M d pc ls [.ref v] h mc ms Q := by
  intro p e s m args below meth c H locs cells slots lsA tc ts hM hS hL h1 h2
  refine W.widen (k := tc) (n := ts) (by omega) (by omega) (vx_ret ?_)
  exact W.aret hM.1 hM.2.1 (hM.2.2.1.trans hr) (Or.inr ⟨_, rfl⟩) (Or.inr ⟨_, rfl⟩) (fun t ht hW => ⟨⟨_, h, rfl, hq, by rw [ht]; exact hS.1⟩, hS.2.F ht⟩) hS.2.2.2 hd hM.2.2.2.2.2.1
theorem ev_vreturn (hq : Q (.inl none) h) (hr : mR M = none) (hd : decode (mC M) pc = .ok (.return_, 1)) : Ev g M d pc ls [] h mc ms Q := by
  intro p e s m args below meth c H locs cells slots lsA tc ts hM hS hL h1 h2
  refine W.widen (k := tc) (n := ts) (by omega) (by omega) (vx_ret ?_)
  exact W.vret hM.1 hM.2.1 (hM.2.2.1.trans hr) (fun t ht hW => ⟨⟨_, h, rfl, hq, by rw [ht]; exact hS.1⟩, hS.2.F ht⟩) hS.2.2.2 hd hM.2.2.2.2.2.1
theorem ev_mono {mc2 ms2 : Nat} (h1 : mc ≤ mc2) (h2 : ms ≤ ms2) (k : Ev g M d pc ls st h mc ms Q) : Ev g M d pc ls st h mc2 ms2 Q := by
  intro p e s m args below meth c H locs cells slots lsA tc ts hM hS hL h3 h4
  exact k p e s m args below meth c H locs cells slots lsA tc ts hM hS hL (by omega) (by omega)
theorem ev_heap {h2 : AH} (hw : ∀ a c, h2 a = some c → h a = some c) (k : Ev g M d pc ls st h2 mc ms Q) : Ev g M d pc ls st h mc ms Q := by
  intro p e s m args below meth c H locs cells slots lsA tc ts hM hS hL h3 h4
  exact k p e s m args below meth c H locs cells slots lsA tc ts hM ⟨fun a c z => hS.1 a c (hw a c z), hS.2⟩ hL h3 h4
theorem ev_locals {ls2 : List (Option Value)} (hw : ∀ i v, ldL ls2 i = some v → ldL ls i = some v) (k : Ev g M d pc ls2 st h mc ms Q) : Ev g M d pc ls st h mc ms Q := by
  intro p e s m args below meth c H locs cells slots lsA tc ts hM hS hL h3 h4
  exact k p e s m args below meth c H locs cells slots lsA tc ts hM hS (hL.weaken hw) h3 h4
/-- new: cell at a place that was nothing -/
def NW (own : String) (index ci : Nat) (fs : List Value) : Prop := ∃ q : vw_C, vwCl[ci]? = some q ∧ (∀ w ∈ u_ws q.1 q.2.1 q.2.2, w ∈ lw_tbl ∧ pw w = true) ∧ (∃ ty0 : Nat → FieldType, (∀ k, k < q.2.2 → parseFieldDescriptor (q.2.1 k).2.2.1 = some (ty0 k)) ∧ ∀ j, j < q.2.2 → defaultValue (ty0 j) = vp_V fs j) ∧ q.2.2 = fs.length ∧ Cond.classLink own index q.1 ∈ lw_tbl ∧ Cond.instantiable q.1 q.2.2 ∈ lw_tbl ∧ Cond.initialized q.1 ∈ lw_tbl
theorem ev_new {index : Nat} {fs : List Value} (n ci : Nat) (N : NW (mY M).cls index ci fs) (hd : decode (mC M) pc = .ok (.new index, 3)) (hn : pc + 3 = n) (kk : ∀ q, h q = none → gB g ≤ q → Ev g M d n ls (.ref q :: st) (hup h q (.inr (ci, fs))) mc ms Q) : Ev g M d pc ls st h (mc + 1) (ms + fs.length) Q := by
  subst hn
  intro p e s m args below meth c H locs cells slots lsA tc ts hM hS hL h1 h2
  obtain ⟨q, f1, f2, ⟨ty0, f3, f4⟩, f5, f6, f7, f8⟩ := N
  obtain ⟨m1, m2, m3, m4, m5, m6, m7, m8, m9⟩ := id hM
  refine va_new (D := gD g) (cl := vwCl) (tys := gT g) (ci := ci) (fs := fs) (C := q.1) (T := q.2.1) (N := q.2.2) (Ts := u_ws q.1 q.2.1 q.2.2) (own := (mY M).cls) m1 m2 (fun w hw => AW.at m9 (f2 w hw).1 (f2 w hw).2) (fun _ hw => hw) ty0 f3 m4 (AW.at m9 f6 rfl) (AW.at m9 f7 rfl) (AW.at m9 f8 rfl) m9.1.1 (wsH_P hS.1) (wsH_D g h H.size) hS.2 (fun z hz => Nat.le_trans m9.2.1 hz) f1 f4 (show cells + 1 ≤ tc by omega) (show slots + q.2.2 ≤ ts by omega) hd (fun qa H1 hP1 hD1 hS1 => ?_)
  obtain ⟨g1, g2, g3⟩ := hS.1.new (c := .inr (ci, fs)) m9.2.1 hS.2 hS1 rfl hP1 hD1
  exact kk qa g1 g2 p e s m args below meth c H1 locs (cells + 1) (slots + q.2.2) lsA tc ts hM ⟨g3, hS1⟩ hL (by omega) (by omega)
end EVH
/-! results, by kind -/
def noX : String → AH → Prop := fun _ _ => False
def Qi (P : Int32 → AH → Prop) (X : String → AH → Prop) : RT → AH → Prop := fun r h => match r with
  | .inl (some (.int z)) => P z h
  | .inr E => X E h
  | _ => False
def Ql (P : Int64 → AH → Prop) (X : String → AH → Prop) : RT → AH → Prop := fun r h => match r with
  | .inl (some (.long z)) => P z h
  | .inr E => X E h
  | _ => False
def Qr (P : Nat → AH → Prop) (X : String → AH → Prop) : RT → AH → Prop := fun r h => match r with
  | .inl (some (.ref z)) => P z h
  | .inr E => X E h
  | _ => False
def Qf (P : UInt32 → AH → Prop) (X : String → AH → Prop) : RT → AH → Prop := fun r h => match r with
  | .inl (some (.float z)) => P z h
  | .inr E => X E h
  | _ => False
def Qd (P : UInt64 → AH → Prop) (X : String → AH → Prop) : RT → AH → Prop := fun r h => match r with
  | .inl (some (.double z)) => P z h
  | .inr E => X E h
  | _ => False
def Qv (P : AH → Prop) (X : String → AH → Prop) : RT → AH → Prop := fun r h => match r with
  | .inl none => P h
  | .inr E => X E h
  | _ => False
/-- an exception of class E lies over the method's frame at pc: what the method does with it leads to Q -/
def Xv (g : Gt) (M : Mt) (d pc : Nat) (ls : List (Option Value)) (E : String) (h : AH) (mc ms : Nat) (Q : RT → AH → Prop) : Prop :=
  ∀ (p : Program) (e : Env) (s : State) (m : MethodId) (args : Array Value) (below : List Frame) (meth : Method) (c : Code) (H : Heap) (locs : List Loc) (cells slots : Nat) (lsA : Array Slot) (tc ts : Nat) (rest : List Value) (q : Addr) (ce : Cell),
    MX g M p s m args meth c → SX g h s H locs → LX lsA (mL M) ls → cells + mc ≤ tc → slots + ms ≤ ts → H[q]? = some ce → ce.vm = .none → s.vm.findClass E = some ce.cls →
    vx_W p (gL g) e (rmD d tc ts) s m args below meth c H locs cells slots (vx_MQ below (QcO g Q) (XcO g Q) args s tc ts (gF g)) (F0 m pc lsA rest) q
section EVC
variable {g : Gt} {M M2 : Mt} {d d1 pc : Nat} {ls : List (Option Value)} {st st0 : List Value} {h : AH} {mc ms mc1 ms1 : Nat} {Q Q1 : RT → AH → Prop}
theorem xv_out {E : String} (hh : mH M = []) (hq : Q (.inr E) h) : Xv g M d pc ls E h mc ms Q := by
  intro p e s m args below meth c H locs cells slots lsA tc ts rest q ce hM hS hL h1 h2 hc hv hf
  have htab : c.exceptionTable.toList = [] := by rw [hM.2.2.2.2.2.2.2.1, hh]; rfl
  refine vx_out (E := E) (ce := ce) (by rw [htab]; intro x hx; cases hx) hM.2.2.2.2.2.1 hc hv hf (fun t ht hA => ⟨⟨h, hq, by rw [ht]; exact hS.1⟩, ?_⟩) hS.2.2.2 (by omega) (by omega)
  exact ⟨by rw [ht]; exact hS.2.1, fun z hz hn => by rw [ht]; exact hS.2.2.1 z hz hn⟩
/-- out of a run of a callee -/
theorem ev_of_vrun {As : Array Value} (n : Nat) (hrun : ∀ (p : Program) (e : Env) (s : State) (m : MethodId) (args : Array Value) (below : List Frame) (meth : Method) (c : Code) (H : Heap) (locs : List Loc) (cells slots : Nat) (lsA : Array Slot) (tc ts : Nat),
    MX g M p s m args meth c → SX g h s H locs → LX lsA (mL M) ls → cells + (mc1 + mc) ≤ tc → slots + (ms1 + ms) ≤ ts →
    vx_Run p (gL g) e (rmD d tc ts) s m args below meth c H locs cells slots mc1 ms1 (F0 m pc lsA st0) st (QcO g Q1 As) (XcO g Q1) (gF g))
    (hn : pc + 3 = n) (kr : ∀ v h', Q1 (.inl v) h' → Ev g M d n ls (v.toList ++ st) h' mc ms Q) (kx : ∀ E h', Q1 (.inr E) h' → Xv g M d pc ls E h' mc ms Q) : Ev g M d pc ls st0 h (mc1 + mc) (ms1 + ms) Q := by
  subst hn
  intro p e s m args below meth c H locs cells slots lsA tc ts hM hS hL h1 h2
  intro T hT X
  rcases hrun p e s m args below meth c H locs cells slots lsA tc ts hM hS hL h1 h2 T hT X with ⟨v, st₀, t, T', L, h0, X', hLf, e1, e2, ⟨⟨v', h', hv, hq, hHR⟩, hF⟩, stp⟩ | ⟨q, st₀, t, T', L, E, ce, h0, X', hLf, e1, e2, ⟨⟨h', hq, hHR⟩, hF⟩, hce, hcv, hcl, stp⟩
  · cases hv
    obtain ⟨k1, k2, k3⟩ := vx_keep h0 e1 hS.2 (fun _ _ z => z) (fun _ z => z) hLf hF
    obtain ⟨t2, a1, b1⟩ := kr v h' hq p e s m args below meth c T'.heap (locs ++ L) (cells + mc1) (slots + ms1) lsA tc ts hM ⟨by rw [e1]; exact hHR, k3⟩ hL (by omega) (by omega) T' rfl X'
    exact ⟨t2, stp t2 a1, b1⟩
  · obtain ⟨k1, k2, k3⟩ := vx_keep h0 e1 hS.2 (fun _ _ z => z) (fun _ z => z) hLf hF
    obtain ⟨t2, a1, b1⟩ := kx E h' hq p e s m args below meth c T'.heap (locs ++ L) (cells + mc1) (slots + ms1) lsA tc ts st q ce hM ⟨by rw [e1]; exact hHR, k3⟩ hL (by omega) (by omega) (by rw [e1]; exact hce) hcv hcl T' rfl X'
    exact ⟨t2, stp.trans a1, b1⟩
theorem vrun_of_run {p : Program} {l : Launch} {e : Env} {R : Room} {s : State} {m : MethodId} {args : Array Value} {below : List Frame} {meth : Method} {c : Code} {H : Heap} {locs : List Loc} {cells slots mc ms : Nat} {gg : JFrame} {rest : List Value} {Qa : State → Outcome → State → Prop} {XC : String → State → State → Prop} {free : Addr → Prop}
    (hr : va_Run p l e R s m args below meth c H locs cells slots mc ms gg rest Qa free) : vx_Run p l e R s m args below meth c H locs cells slots mc ms gg rest Qa XC free := by
  intro T hT X
  exact Or.inl (hr T hT X)
theorem ct_blind {av : List Value} : FrameBlind (fun a U => a = av.toArray ∧ CTX g U ∧ HR g h U.heap) := by
  intro a U gg mk hq
  exact ⟨hq.1, hq.2.1.warm (State.WarmedH.refl U) hq.2.1.2.1 (fun _ _ => rfl), hq.2.2⟩
theorem ct_at {av : List Value} {s U : State} {H : Heap} {locs : List Loc} (hC : CTX g s) (hS : SX g h s H locs) (hU : U.heap = H) (hW : s.WarmedH U.vm) : (fun (a : Array Value) (U : State) => a = av.toArray ∧ CTX g U ∧ HR g h U.heap) av.toArray U := by
  refine ⟨rfl, hC.warm hW (by rw [hU]; exact Nat.le_trans hC.2.1 hS.2.1) (fun a ha => by rw [hU]; exact hS.2.2.1 a (Nat.lt_of_lt_of_le ha hC.2.1) (Nat.not_le.mpr ha)), by rw [hU]; exact hS.1⟩
/-- what a link of a method says, by the tables alone: M2 is called by 'own' at 'index', with n arguments -/
def LK (own : String) (index : Nat) (M2 : Mt) (n : Nat) : Prop := mH M2 = [] ∧ Cond.methodLink own index (mY M2) ∈ lw_tbl ∧ Cond.code (mY M2) (mC M2) (mL M2) (mR M2) ∈ lw_tbl ∧ Cond.initialized (mY M2).cls ∈ lw_tbl ∧ mL M2 ≤ 27 ∧
  ((mY M2).cls ≠ "java/lang/invoke/MethodHandle" ∧ (mY M2).cls ≠ "java/lang/invoke/VarHandle" ∧ (parseMethodDescriptor (mY M2).desc).map (fun d => d.parameters.length) = some n)
def LKv (own : String) (index : Nat) (M2 : Mt) (n : Nat) : Prop := LK own index M2 n ∧ Cond.instanceMethod (mY M2) ∈ lw_tbl ∧ Cond.selects (mY M2).cls (mY M2) (mY M2) ∈ lw_tbl
def LKs (own : String) (index : Nat) (M2 : Mt) (n : Nat) : Prop := LK own index M2 n ∧ Cond.static (mY M2) ∈ lw_tbl
def LKi (own : String) (index : Nat) (M2 : Mt) (n : Nat) : Prop := LK own index M2 n ∧ Cond.instanceMethod (mY M2) ∈ lw_tbl ∧ (mY M2).name = "<init>" ∧ mR M2 = none
theorem mW_code (hh : mH M2 = []) : mWs M2 = Cond.code (mY M2) (mC M2) (mL M2) (mR M2) :: [] := by
  show [mW M2] = _
  unfold mW
  rw [hh]
theorem lk_callB {own : String} {index n : Nat} {s : State} {args : Array Value} {R : Room} (hC : CTX g s) (L : LK own index M2 n) (hR : d1 + 1 ≤ R.frames ∧ 8 + (mL M2 + 11) + 46 * d1 ≤ R.locals) : CallB R s args own index (mY M2) (mC M2) (mL M2) (mR M2) (mWs M2) (rmD d1 mc1 ms1) mc1 ms1 n := by
  obtain ⟨l1, l2, l3, l4, l5, l6⟩ := L
  have e := mW_code l1
  refine ⟨rfl, rfl, hR.1, hR.2, ?_, by rw [e]; exact List.mem_cons_self, AW.at hC l3 rfl, AW.at hC l4 rfl, ⟨l6.1, l6.2.1⟩, fun sig hs => ?_, AW.at hC l2 rfl⟩
  · intro w hw a' U hW
    rw [e] at hw
    rw [List.mem_singleton.mp hw]
    exact word_at hW (good_of_word rfl) (AW.at (A := args) hC l3 rfl)
  · have h2 := l6.2.2
    rw [hs] at h2
    exact (Option.some.inj h2).symm
theorem rm_le (h1 : d1 < d) (h2 : mL M2 ≤ 27) (tc ts : Nat) : d1 + 1 ≤ (rmD d tc ts).frames ∧ 8 + (mL M2 + 11) + 46 * d1 ≤ (rmD d tc ts).locals := ⟨h1, by show _ ≤ 46 * d; omega⟩
theorem recv_at {C : String} {T : u_T} {N ci b : Nat} {fs : List Value} {s : State} {H : Heap} {locs : List Loc} (hC : CTX g s) (hS : SX g h s H locs) (hb : h b = some (.inr (ci, fs))) (hc : vwCl[ci]? = some (C, T, N)) : ∃ cellB : Cell, H[b]? = some cellB ∧ cellB.vm.isStatics = false ∧ s.vm.findClass C = some cellB.cls :=
  va_recv hC.1.1 (hS.1.one hb) (q := (C, T, N)) (ci := ci) (q0 := 0) hc rfl
theorem ev_callV {index b k : Nat} {As : List Value} {fs : List Value} (n ci : Nat) (L : LKv (mY M).cls index M2 k) (hc : Ct g M2 d1 (.ref b :: As) h mc1 ms1 Q1) (hd1 : d1 < d) (hb : h b = some (.inr (ci, fs))) (hci : vwCl[ci]?.map (·.1) = some (mY M2).cls) (hk : As.length = k) (hst : st0 = As.reverse ++ .ref b :: st) (hcat : (st.map fun v => v.category).sum ≤ 8) (hd : decode (mC M) pc = .ok (.invokevirtual index, 3)) (hn : pc + 3 = n)
    (kr : ∀ v h', Q1 (.inl v) h' → Ev g M d n ls (v.toList ++ st) h' mc ms Q) (kx : ∀ E h', Q1 (.inr E) h' → Xv g M d pc ls E h' mc ms Q) : Ev g M d pc ls st0 h (mc1 + mc) (ms1 + ms) Q := by
  subst hst
  refine ev_of_vrun (As := (Value.ref b :: As).toArray) n (fun p e s m args below meth c H locs cells slots lsA tc ts hM hS hL h1 h2 => ?_) hn kr kx
  have hC := hM.2.2.2.2.2.2.2.2
  obtain ⟨q, hq1, hq2⟩ := Option.map_eq_some_iff.mp hci
  obtain ⟨C, T, N⟩ := q
  have hq2 : C = (mY M2).cls := hq2
  subst hq2
  exact vx_runV (Ts := [Cond.code (mY M2) (mC M2) (mL M2) (mR M2)]) (C := (mY M2).cls) (n := k) ⟨hM.1, hM.2.1, hM.2.2.2.2.1, hM.2.2.2.1, fun w hw => by rw [List.mem_singleton.mp hw]; exact AW.at hC L.1.2.2.1 rfl⟩ hc ⟨lk_callB hC L.1 (rm_le hd1 L.1.2.2.2.2.1 tc ts), AW.at hC L.2.1 rfl, AW.at hC L.2.2 rfl⟩ ⟨ct_blind, recv_at hC hS hb hq1, fun U hU hW => ct_at hC hS hU hW⟩ rfl hk hL.1 rfl (lv_room hcat) hd ⟨by show cells + mc1 ≤ tc; omega, by show slots + ms1 ≤ ts; omega⟩
theorem ev_callS {index k : Nat} {As : List Value} (n : Nat) (L : LKs (mY M).cls index M2 k) (hc : Ct g M2 d1 As h mc1 ms1 Q1) (hd1 : d1 < d) (hk : As.length = k) (hst : st0 = As.reverse ++ st) (hcat : (st.map fun v => v.category).sum ≤ 8) (hd : decode (mC M) pc = .ok (.invokestatic index, 3)) (hn : pc + 3 = n)
    (kr : ∀ v h', Q1 (.inl v) h' → Ev g M d n ls (v.toList ++ st) h' mc ms Q) (kx : ∀ E h', Q1 (.inr E) h' → Xv g M d pc ls E h' mc ms Q) : Ev g M d pc ls st0 h (mc1 + mc) (ms1 + ms) Q := by
  subst hst
  refine ev_of_vrun (As := As.toArray) n (fun p e s m args below meth c H locs cells slots lsA tc ts hM hS hL h1 h2 => ?_) hn kr kx
  have hC := hM.2.2.2.2.2.2.2.2
  exact vx_runS (Ts := [Cond.code (mY M2) (mC M2) (mL M2) (mR M2)]) (n := k) ⟨hM.1, hM.2.1, hM.2.2.2.2.1, hM.2.2.2.1, fun w hw => by rw [List.mem_singleton.mp hw]; exact AW.at hC L.1.2.2.1 rfl⟩ hc ⟨lk_callB hC L.1 (rm_le hd1 L.1.2.2.2.2.1 tc ts), AW.at hC L.2 rfl⟩ ⟨ct_blind, fun U hU hW => ct_at hC hS hU hW⟩ rfl hk hL.1 rfl (lv_room hcat) hd ⟨by show cells + mc1 ≤ tc; omega, by show slots + ms1 ≤ ts; omega⟩
theorem ev_callI {index b k : Nat} {As : List Value} (n : Nat) (L : LKi (mY M).cls index M2 k) (hc : Cn g M2 d1 (.ref b :: As) h mc1 ms1 Q1) (hd1 : d1 < d) (hk : As.length = k) (hst : st0 = As.reverse ++ .ref b :: st) (hcat : (st.map fun v => v.category).sum ≤ 8) (hd : decode (mC M) pc = .ok (.invokespecial index, 3)) (hn : pc + 3 = n)
    (kr : ∀ v h', Q1 (.inl v) h' → Ev g M d n ls (v.toList ++ st) h' mc ms Q) (kx : ∀ E h', Q1 (.inr E) h' → Xv g M d pc ls E h' mc ms Q) : Ev g M d pc ls st0 h (mc1 + mc) (ms1 + ms) Q := by
  subst hst
  refine ev_of_vrun (As := (Value.ref b :: As).toArray) n (fun p e s m args below meth c H locs cells slots lsA tc ts hM hS hL h1 h2 => ?_) hn kr kx
  have hC := hM.2.2.2.2.2.2.2.2
  have hcb := lk_callB (args := args) (R := rmD d tc ts) (mc1 := mc1) (ms1 := ms1) hC L.1 (rm_le hd1 L.1.2.2.2.2.1 tc ts)
  rw [L.2.2.2] at hcb
  exact vrun_of_run (va_runI (Ts := [Cond.code (mY M2) (mC M2) (mL M2) (mR M2)]) (n := k) ⟨hM.1, hM.2.1, hM.2.2.2.2.1, hM.2.2.2.1, fun w hw => by rw [List.mem_singleton.mp hw]; exact AW.at hC L.1.2.2.1 rfl⟩ hc ⟨hcb, L.2.2.1, AW.at hC L.2.1 rfl⟩ ⟨ct_blind, fun U hU hW => ct_at hC hS hU hW⟩ rfl hk hL.1 rfl (lv_room hcat) hd ⟨by show cells + mc1 ≤ tc; omega, by show slots + ms1 ≤ ts; omega⟩)
end EVC
/-! entries and throws -/
def slV : Slot → Option Value
  | .val v => some v
  | _ => none
def entL (n : Nat) (av : List Value) : List (Option Value) := (lg_sl av ++ List.replicate (n - (lg_sl av).length) Slot.unset).map slV
theorem slV_val {s : Slot} {v : Value} (h : slV s = some v) : s = .val v := by
  cases s <;> simp [slV] at h
  rw [h]
theorem lx_entry {av : List Value} {n : Nat} {ls : List (Option Value)} (hls : entL n av = ls) (hlen : (lg_sl av).length ≤ n) : LX ((lg_sl av ++ List.replicate (n - (lg_sl av).length) Slot.unset).toArray) n ls := by
  have h := lv_entry av hlen
  refine ⟨h.1, h.2.1, fun i v hv => ?_⟩
  subst hls
  unfold ldL entL at hv
  rw [List.getElem?_map] at hv
  cases hl : (lg_sl av ++ List.replicate (n - (lg_sl av).length) Slot.unset)[i]? with
  | none => rw [hl] at hv; simp at hv
  | some sl =>
    rw [hl] at hv
    cases hs : slV sl with
    | none => simp [hs] at hv
    | some w =>
      simp [hs] at hv
      subst hv
      rw [slV_val hs] at hl
      simpa using hl
section EVE
variable {g : Gt} {M : Mt} {d pc : Nat} {ls : List (Option Value)} {st : List Value} {h : AH} {mc ms : Nat} {Q : RT → AH → Prop}
theorem ct_of_ev {av : List Value} (hp : plainName (mY M).cls = true) (hh : mH M = []) (hls : entL (mL M) av = ls) (hlen : (lg_sl av).length ≤ mL M) (k : Ev g M d 0 ls [] h mc ms Q) : Ct g M d av h mc ms Q := by
  refine vx_ofW (cc := mC M) (maxL := mL M) (ret := mR M) hp (mW_code hh) ?_
  intro p e s m args below meth c s₁ B hml htab hv
  obtain ⟨rfl, hC, hHR⟩ := hv
  rw [lg_entry_eq]
  exact k p e s m _ below meth c s.heap [] 0 0 _ mc ms ⟨B.exec, B.bytes, B.returns, findClass_of_methodNamed B.named, hml, B.notSynchronized, (name_of_methodNamed B.named B.method).1, by rw [hh]; exact List.eq_nil_iff_forall_not_mem.mpr htab, hC⟩ ⟨hHR, va_S.rf⟩ (lx_entry hls hlen) (by omega) (by omega)
theorem mW_with {x : Nat × Nat × Nat × Nat} {r : List (Nat × Nat × Nat × Nat)} (hh : mH M = x :: r) : mWs M = Cond.codeWith (mY M) (mC M) (mL M) (mR M) (mH M) :: [] := by
  show [mW M] = _
  unfold mW
  rw [hh]
theorem ct_of_evH {av : List Value} {x : Nat × Nat × Nat × Nat} {r : List (Nat × Nat × Nat × Nat)} (hp : plainName (mY M).cls = true) (hh : mH M = x :: r) (hls : entL (mL M) av = ls) (hlen : (lg_sl av).length ≤ mL M) (k : Ev g M d 0 ls [] h mc ms Q) : Ct g M d av h mc ms Q := by
  refine vx_ofWH (cc := mC M) (maxL := mL M) (ret := mR M) (hh := mH M) hp (mW_with hh) ?_
  intro p e s m args below meth c s₁ B hml hv
  obtain ⟨rfl, hC, hHR⟩ := hv
  have hw := atoms_spec (ws := mWs M) B.pre
  rw [mW_with hh] at hw
  rw [lg_entry_eq]
  exact k p e s m _ below meth c s.heap [] 0 0 _ mc ms ⟨B.exec, B.bytes, B.returns, findClass_of_methodNamed B.named, hml, B.notSynchronized, (name_of_methodNamed B.named B.method).1, vx_table (x := mY M) (bytes := mC M) (maxL' := mL M) (ret' := mR M) B (hw _ List.mem_cons_self), hC⟩ ⟨hHR, va_S.rf⟩ (lx_entry hls hlen) (by omega) (by omega)
theorem cn_of_ct {av : List Value} (hx : ∀ E h', ¬ Q (.inr E) h') (c : Ct g M d av h mc ms Q) : Cn g M d av h mc ms Q := by
  intro p e ha hc hk s m args below hf happ hP hK
  obtain ⟨n, o, a1, a2, a3, a4⟩ := c p e ha hc hk s m args below hf happ hP hK
  refine ⟨n, o, a1, a2, a3, ?_⟩
  rcases a4 with z | ⟨q, -, hT⟩
  · exact z
  · obtain ⟨E, ce, L, ⟨⟨h', hq, -⟩, -⟩, -⟩ := hT
    exact absurd hq (hx E h')
def TH (own : String) (ik is ic : Nat) (cls text : String) (names : List String) : Prop := Bundle.fit cls = true ∧ (∀ n ∈ names, Bundle.fit n = true) ∧ Cond.classLink own ik cls ∈ lw_tbl ∧ Cond.initialized cls ∈ lw_tbl ∧ (own, is, text) ∈ lw_strs ∧ (∀ w ∈ vx_atS own ic cls names, w ∈ lw_tbl ∧ pw w = true) ∧ (∀ w ∈ Cond.classLink own ik cls :: Cond.initialized cls :: vx_atS own ic cls names, vx_ot w = true)
theorem th_post {cls : String} {s t : State} {H : Heap} {locs : List Loc} (hq : Q (.inr cls) h) (hS : SX g h s H locs) (hz : H.size ≤ t.heap.size) (ho : ∀ q : Nat, q < H.size → t.heap[q]? = H[q]?) : XcO g Q cls s t := by
  refine ⟨⟨h, hq, fun a c hc => (hS.1 a c hc).kept (ho a (hS.1.lt hc))⟩, Nat.le_trans hS.2.1 hz, fun q hq hn => ?_⟩
  rw [ho q (Nat.lt_of_lt_of_le hq hS.2.1)]
  exact hS.2.2.1 q hq hn
theorem ev_throwS {ik is ic : Nat} {cls text : String} {names : List String} (T : TH (mY M).cls ik is ic cls text names) (hh : mH M = []) (hq : Q (.inr cls) h) (hdep : names.length + 3 < d) (hroom : (st.map fun v => v.category).sum + (13 * (names.length + 1) + 43) ≤ 46 * d)
    (d0 : decode (mC M) pc = .ok (.new ik, 3)) (d3 : decode (mC M) (pc + 3) = .ok (.dup, 1)) (d4 : decode (mC M) (pc + 4) = .ok (.ldc is, 2)) (d6 : decode (mC M) (pc + 6) = .ok (.invokespecial ic, 3)) (d9 : decode (mC M) (pc + 9) = .ok (.athrow, 1)) (hmc : 1 ≤ mc) (hms : 6 ≤ ms) : Ev g M d pc ls st h mc ms Q := by
  intro p e s m args below meth c H locs cells slots lsA tc ts hM hS hL h1 h2
  obtain ⟨t1, t2, t3, t4, t5, t6, t7⟩ := T
  obtain ⟨m1, m2, m3, m4, m5, m6, m7, m8, m9⟩ := id hM
  obtain ⟨sa, hsa⟩ := m9.1.2.2.2.2.2.1 _ t5
  have htab : c.exceptionTable.toList = [] := by rw [m8, hh]; rfl
  exact vx_throwS (text := text) (names := names) (ik := ik) (is := is) (ic := ic) (sa := sa) (A := gF g) m1 m2 m9.1.2.2.1 m4 t1 t2 (AW.at m9 t3 rfl) (AW.at m9 t4 rfl) hsa (fun w hw => AW.at m9 (t6 w hw).1 (t6 w hw).2) t7 m9.1.2.2.2.1 m9.1.2.2.2.2.1 hS.2 (hL.1.trans m5.symm) d0 d3 d4 d6 d9 (by rw [htab]; intro x hx; cases hx) hdep hroom (show cells + 1 ≤ tc by omega) (show slots + 6 ≤ ts by omega) m6 (fun t _ hz ho => th_post hq hS hz ho) hS.2.2.2 (by omega) (by omega)
theorem ev_throwSW {ik is ic : Nat} {cls text : String} {names : List String} (T : TH (mY M).cls ik is ic cls text names) (hh : mH M = []) (hq : Q (.inr cls) h) (hdep : names.length + 3 < d) (hroom : (st.map fun v => v.category).sum + (13 * (names.length + 1) + 43) ≤ 46 * d)
    (d0 : decode (mC M) pc = .ok (.new ik, 3)) (d3 : decode (mC M) (pc + 3) = .ok (.dup, 1)) (d4 : decode (mC M) (pc + 4) = .ok (.ldc_w is, 3)) (d6 : decode (mC M) (pc + 7) = .ok (.invokespecial ic, 3)) (d9 : decode (mC M) (pc + 10) = .ok (.athrow, 1)) (hmc : 1 ≤ mc) (hms : 6 ≤ ms) : Ev g M d pc ls st h mc ms Q := by
  intro p e s m args below meth c H locs cells slots lsA tc ts hM hS hL h1 h2
  obtain ⟨t1, t2, t3, t4, t5, t6, t7⟩ := T
  obtain ⟨m1, m2, m3, m4, m5, m6, m7, m8, m9⟩ := id hM
  obtain ⟨sa, hsa⟩ := m9.1.2.2.2.2.2.1 _ t5
  have htab : c.exceptionTable.toList = [] := by rw [m8, hh]; rfl
  exact vx_throwSW (text := text) (names := names) (ik := ik) (is := is) (ic := ic) (sa := sa) (A := gF g) m1 m2 m9.1.2.2.1 m4 t1 t2 (AW.at m9 t3 rfl) (AW.at m9 t4 rfl) hsa (fun w hw => AW.at m9 (t6 w hw).1 (t6 w hw).2) t7 m9.1.2.2.2.1 m9.1.2.2.2.2.1 hS.2 (hL.1.trans m5.symm) d0 d3 d4 d6 d9 (by rw [htab]; intro x hx; cases hx) hdep hroom (show cells + 1 ≤ tc by omega) (show slots + 6 ≤ ts by omega) m6 (fun t _ hz ho => th_post hq hS hz ho) hS.2.2.2 (by omega) (by omega)
end EVE
end
section
abbrev M_J15_checkIndex_7cf53 : Mt := (yJ15_checkIndex_7cf53, cJ15_checkIndex_7cf53, 2, (Option.some Jvm.ClassFile.FieldType.int), [])
abbrev M_J3_checkIndex_8e157 : Mt := (yJ3_checkIndex_8e157, cJ3_checkIndex_8e157, 3, (Option.some Jvm.ClassFile.FieldType.int), [])
abbrev M_J7_copyOf_1904c : Mt := (yJ7_copyOf_1904c, cJ7_copyOf_1904c, 2, (Option.some (Jvm.ClassFile.FieldType.array (Jvm.ClassFile.FieldType.object "java/lang/Object"))), [])
abbrev M_J7_copyOf_6403c : Mt := (yJ7_copyOf_6403c, cJ7_copyOf_6403c, 4, (Option.some (Jvm.ClassFile.FieldType.array (Jvm.ClassFile.FieldType.object "java/lang/Object"))), [])
abbrev M_J7_fill_53178 : Mt := (yJ7_fill_53178, cJ7_fill_53178, 4, (Option.none : Option Jvm.ClassFile.FieldType), [])
abbrev M_J8_hugeLength_7cf53 : Mt := (yJ8_hugeLength_7cf53, cJ8_hugeLength_7cf53, 3, (Option.some Jvm.ClassFile.FieldType.int), [])
abbrev M_J8_newLength_cabcc : Mt := (yJ8_newLength_cabcc, cJ8_newLength_cabcc, 4, (Option.some Jvm.ClassFile.FieldType.int), [])
abbrev M_J9_max_7cf53 : Mt := (yJ9_max_7cf53, cJ9_max_7cf53, 2, (Option.some Jvm.ClassFile.FieldType.int), [])
abbrev M_J9_min_7cf53 : Mt := (yJ9_min_7cf53, cJ9_min_7cf53, 2, (Option.some Jvm.ClassFile.FieldType.int), [])
abbrev M_Jx00060_init_a7421 : Mt := (yJx00060_init_a7421, cJx00060_init_a7421, 2, (Option.none : Option Jvm.ClassFile.FieldType), [])
abbrev M_Jx4a65c_add_72be8 : Mt := (yJx4a65c_add_72be8, cJx4a65c_add_72be8, 4, (Option.none : Option Jvm.ClassFile.FieldType), [])
abbrev M_Jx4a65c_add_9ea2d : Mt := (yJx4a65c_add_9ea2d, cJx4a65c_add_9ea2d, 2, (Option.some Jvm.ClassFile.FieldType.boolean), [])
abbrev M_Jx4a65c_clear_da8c8 : Mt := (yJx4a65c_clear_da8c8, cJx4a65c_clear_da8c8, 4, (Option.none : Option Jvm.ClassFile.FieldType), [])
abbrev M_Jx4a65c_elementData_915e3 : Mt := (yJx4a65c_elementData_915e3, cJx4a65c_elementData_915e3, 2, (Option.some (Jvm.ClassFile.FieldType.object "java/lang/Object")), [])
abbrev M_Jx4a65c_fastRemove_b59b0 : Mt := (yJx4a65c_fastRemove_b59b0, cJx4a65c_fastRemove_b59b0, 4, (Option.none : Option Jvm.ClassFile.FieldType), [])
abbrev M_Jx4a65c_get_915e3 : Mt := (yJx4a65c_get_915e3, cJx4a65c_get_915e3, 2, (Option.some (Jvm.ClassFile.FieldType.object "java/lang/Object")), [])
abbrev M_Jx4a65c_grow_92f84 : Mt := (yJx4a65c_grow_92f84, cJx4a65c_grow_92f84, 4, (Option.some (Jvm.ClassFile.FieldType.array (Jvm.ClassFile.FieldType.object "java/lang/Object"))), [])
abbrev M_Jx4a65c_grow_d5877 : Mt := (yJx4a65c_grow_d5877, cJx4a65c_grow_d5877, 1, (Option.some (Jvm.ClassFile.FieldType.array (Jvm.ClassFile.FieldType.object "java/lang/Object"))), [])
abbrev M_Jx4a65c_init_da8c8 : Mt := (yJx4a65c_init_da8c8, cJx4a65c_init_da8c8, 1, (Option.none : Option Jvm.ClassFile.FieldType), [])
abbrev M_Jx4a65c_remove_915e3 : Mt := (yJx4a65c_remove_915e3, cJx4a65c_remove_915e3, 4, (Option.some (Jvm.ClassFile.FieldType.object "java/lang/Object")), [])
abbrev M_Jx4a65c_size_8abf5 : Mt := (yJx4a65c_size_8abf5, cJx4a65c_size_8abf5, 1, (Option.some Jvm.ClassFile.FieldType.int), [])
abbrev M_Jxa1e45_init_da8c8 : Mt := (yJxa1e45_init_da8c8, cJxa1e45_init_da8c8, 1, (Option.none : Option Jvm.ClassFile.FieldType), [])
abbrev M_Jxc12de_init_da8c8 : Mt := (yJxc12de_init_da8c8, cJxc12de_init_da8c8, 1, (Option.none : Option Jvm.ClassFile.FieldType), [])
abbrev M_L_adds : Mt := (yL_adds, cL_adds, 3, (Option.some Jvm.ClassFile.FieldType.int), [])
abbrev M_L_agrees : Mt := (yL_agrees, cL_agrees, 8, (Option.some Jvm.ClassFile.FieldType.boolean), [])
abbrev M_L_best : Mt := (yL_best, cL_best, 4, (Option.some Jvm.ClassFile.FieldType.int), [(0, 6, 7, 15)])
abbrev M_L_cell : Mt := (yL_cell, cL_cell, 2, (Option.some Jvm.ClassFile.FieldType.int), [])
abbrev M_L_changes : Mt := (yL_changes, cL_changes, 8, (Option.some Jvm.ClassFile.FieldType.boolean), [])
abbrev M_L_drops : Mt := (yL_drops, cL_drops, 10, (Option.some Jvm.ClassFile.FieldType.boolean), [])
abbrev M_L_ends : Mt := (yL_ends, cL_ends, 8, (Option.some Jvm.ClassFile.FieldType.boolean), [])
abbrev M_L_enroll : Mt := (yL_enroll, cL_enroll, 4, (Option.some Jvm.ClassFile.FieldType.char), [(0, 6, 7, 21), (0, 6, 11, 23), (0, 6, 15, 25), (0, 6, 19, 27), (0, 6, 23, 29), (0, 6, 27, 15)])
abbrev M_L_enrolls : Mt := (yL_enrolls, cL_enrolls, 6, (Option.some Jvm.ClassFile.FieldType.boolean), [])
abbrev M_L_low : Mt := (yL_low, cL_low, 2, (Option.some Jvm.ClassFile.FieldType.int), [])
abbrev M_L_moveIn : Mt := (yL_moveIn, cL_moveIn, 4, (Option.some Jvm.ClassFile.FieldType.int), [(0, 6, 7, 21), (0, 6, 10, 25), (0, 6, 14, 29)])
abbrev M_L_office : Mt := (yL_office, cL_office, 6, (Option.some (Jvm.ClassFile.FieldType.object "PrereqsLaw$Told")), [])
abbrev M_L_place : Mt := (yL_place, cL_place, 4, (Option.some Jvm.ClassFile.FieldType.int), [(0, 6, 7, 15)])
abbrev M_X0_countIn : Mt := (yX0_countIn, cX0_countIn, 2, (Option.some Jvm.ClassFile.FieldType.int), [])
abbrev M_X0_findSlotsFor : Mt := (yX0_findSlotsFor, cX0_findSlotsFor, 5, (Option.some Jvm.ClassFile.FieldType.int), [])
abbrev M_X0_give : Mt := (yX0_give, cX0_give, 6, (Option.some Jvm.ClassFile.FieldType.boolean), [])
abbrev M_X0_giveAll : Mt := (yX0_giveAll, cX0_giveAll, 1, (Option.some Jvm.ClassFile.FieldType.int), [])
abbrev M_X0_giveFrom : Mt := (yX0_giveFrom, cX0_giveFrom, 4, (Option.some Jvm.ClassFile.FieldType.int), [])
abbrev M_X0_handOn : Mt := (yX0_handOn, cX0_handOn, 6, (Option.none : Option Jvm.ClassFile.FieldType), [])
abbrev M_X0_init : Mt := (yX0_init, cX0_init, 1, (Option.none : Option Jvm.ClassFile.FieldType), [])
abbrev M_X0_isFit : Mt := (yX0_isFit, cX0_isFit, 3, (Option.some Jvm.ClassFile.FieldType.boolean), [])
abbrev M_X0_mostTried : Mt := (yX0_mostTried, cX0_mostTried, 5, (Option.some Jvm.ClassFile.FieldType.int), [])
abbrev M_X0_noteFits : Mt := (yX0_noteFits, cX0_noteFits, 6, (Option.none : Option Jvm.ClassFile.FieldType), [])
abbrev M_X0_open : Mt := (yX0_open, cX0_open, 6, (Option.none : Option Jvm.ClassFile.FieldType), [])
abbrev M_X0_ruleBits : Mt := (yX0_ruleBits, cX0_ruleBits, 4, (Option.some Jvm.ClassFile.FieldType.int), [])
abbrev M_X0_shortRules : Mt := (yX0_shortRules, cX0_shortRules, 4, (Option.some Jvm.ClassFile.FieldType.int), [])
abbrev M_X0_shortRulesByTrial : Mt := (yX0_shortRulesByTrial, cX0_shortRulesByTrial, 4, (Option.some Jvm.ClassFile.FieldType.int), [])
abbrev M_X0_sumOf : Mt := (yX0_sumOf, cX0_sumOf, 4, (Option.some Jvm.ClassFile.FieldType.int), [])
abbrev M_X0_trials : Mt := (yX0_trials, cX0_trials, 1, (Option.some Jvm.ClassFile.FieldType.int), [])
abbrev M_X0_tryAll : Mt := (yX0_tryAll, cX0_tryAll, 2, (Option.some Jvm.ClassFile.FieldType.int), [])
abbrev M_X0_tryCourse : Mt := (yX0_tryCourse, cX0_tryCourse, 4, (Option.none : Option Jvm.ClassFile.FieldType), [])
abbrev M_X10_init : Mt := (yX10_init, cX10_init, 1, (Option.none : Option Jvm.ClassFile.FieldType), [])
abbrev M_X11_addCourse : Mt := (yX11_addCourse, cX11_addCourse, 3, (Option.some Jvm.ClassFile.FieldType.int), [])
abbrev M_X11_addStudent : Mt := (yX11_addStudent, cX11_addStudent, 2, (Option.some Jvm.ClassFile.FieldType.int), [])
abbrev M_X11_allFormula : Mt := (yX11_allFormula, cX11_allFormula, 4, (Option.some Jvm.ClassFile.FieldType.int), [])
abbrev M_X11_anyFormula : Mt := (yX11_anyFormula, cX11_anyFormula, 4, (Option.some Jvm.ClassFile.FieldType.int), [])
abbrev M_X11_attempts : Mt := (yX11_attempts, cX11_attempts, 4, (Option.some Jvm.ClassFile.FieldType.int), [])
abbrev M_X11_auditsAgree : Mt := (yX11_auditsAgree, cX11_auditsAgree, 3, (Option.some Jvm.ClassFile.FieldType.boolean), [])
abbrev M_X11_bestMark : Mt := (yX11_bestMark, cX11_bestMark, 4, (Option.some Jvm.ClassFile.FieldType.int), [])
abbrev M_X11_canBear : Mt := (yX11_canBear, cX11_canBear, 3, (Option.some Jvm.ClassFile.FieldType.boolean), [])
abbrev M_X11_canTakeSeat : Mt := (yX11_canTakeSeat, cX11_canTakeSeat, 3, (Option.some Jvm.ClassFile.FieldType.boolean), [])
abbrev M_X11_changeMajor : Mt := (yX11_changeMajor, cX11_changeMajor, 5, (Option.some Jvm.ClassFile.FieldType.int), [])
abbrev M_X11_checkFormulaFits : Mt := (yX11_checkFormulaFits, cX11_checkFormulaFits, 2, (Option.none : Option Jvm.ClassFile.FieldType), [])
abbrev M_X11_checkMajor : Mt := (yX11_checkMajor, cX11_checkMajor, 1, (Option.none : Option Jvm.ClassFile.FieldType), [])
abbrev M_X11_checkMark : Mt := (yX11_checkMark, cX11_checkMark, 1, (Option.none : Option Jvm.ClassFile.FieldType), [])
abbrev M_X11_courseAt : Mt := (yX11_courseAt, cX11_courseAt, 2, (Option.some (Jvm.ClassFile.FieldType.object "Prereqs$Course")), [])
abbrev M_X11_creditsEarned : Mt := (yX11_creditsEarned, cX11_creditsEarned, 4, (Option.some Jvm.ClassFile.FieldType.int), [])
abbrev M_X11_creditsFormula : Mt := (yX11_creditsFormula, cX11_creditsFormula, 2, (Option.some Jvm.ClassFile.FieldType.int), [])
abbrev M_X11_creditsMovedIn : Mt := (yX11_creditsMovedIn, cX11_creditsMovedIn, 4, (Option.some Jvm.ClassFile.FieldType.int), [])
abbrev M_X11_day : Mt := (yX11_day, cX11_day, 1, (Option.some Jvm.ClassFile.FieldType.int), [])
abbrev M_X11_drop : Mt := (yX11_drop, cX11_drop, 6, (Option.some Jvm.ClassFile.FieldType.char), [])
abbrev M_X11_earnedCredits : Mt := (yX11_earnedCredits, cX11_earnedCredits, 2, (Option.some Jvm.ClassFile.FieldType.int), [])
abbrev M_X11_emptyWaitingLists : Mt := (yX11_emptyWaitingLists, cX11_emptyWaitingLists, 2, (Option.none : Option Jvm.ClassFile.FieldType), [])
abbrev M_X11_endTerm : Mt := (yX11_endTerm, cX11_endTerm, 3, (Option.some Jvm.ClassFile.FieldType.int), [])
abbrev M_X11_endWithOthers : Mt := (yX11_endWithOthers, cX11_endWithOthers, 5, (Option.none : Option Jvm.ClassFile.FieldType), [])
abbrev M_X11_enroll : Mt := (yX11_enroll, cX11_enroll, 6, (Option.some Jvm.ClassFile.FieldType.char), [])
abbrev M_X11_enrolled : Mt := (yX11_enrolled, cX11_enrolled, 2, (Option.some Jvm.ClassFile.FieldType.int), [])
abbrev M_X11_firstUnmet : Mt := (yX11_firstUnmet, cX11_firstUnmet, 5, (Option.some Jvm.ClassFile.FieldType.int), [])
abbrev M_X11_formulaAt : Mt := (yX11_formulaAt, cX11_formulaAt, 2, (Option.some (Jvm.ClassFile.FieldType.object "Prereqs$Formula")), [])
abbrev M_X11_freeFor : Mt := (yX11_freeFor, cX11_freeFor, 5, (Option.some Jvm.ClassFile.FieldType.int), [])
abbrev M_X11_freeSeats : Mt := (yX11_freeSeats, cX11_freeSeats, 4, (Option.some Jvm.ClassFile.FieldType.int), [])
abbrev M_X11_giveOutSeats : Mt := (yX11_giveOutSeats, cX11_giveOutSeats, 3, (Option.none : Option Jvm.ClassFile.FieldType), [])
abbrev M_X11_giveSeatIn : Mt := (yX11_giveSeatIn, cX11_giveSeatIn, 4, (Option.some Jvm.ClassFile.FieldType.boolean), [])
abbrev M_X11_holds : Mt := (yX11_holds, cX11_holds, 4, (Option.some Jvm.ClassFile.FieldType.boolean), [])
abbrev M_X11_init : Mt := (yX11_init, cX11_init, 1, (Option.none : Option Jvm.ClassFile.FieldType), [])
abbrev M_X11_isCourseSound : Mt := (yX11_isCourseSound, cX11_isCourseSound, 4, (Option.some Jvm.ClassFile.FieldType.boolean), [])
abbrev M_X11_isEnrolled : Mt := (yX11_isEnrolled, cX11_isEnrolled, 4, (Option.some Jvm.ClassFile.FieldType.boolean), [])
abbrev M_X11_isMet : Mt := (yX11_isMet, cX11_isMet, 3, (Option.some Jvm.ClassFile.FieldType.boolean), [])
abbrev M_X11_isSound : Mt := (yX11_isSound, cX11_isSound, 3, (Option.some Jvm.ClassFile.FieldType.boolean), [])
abbrev M_X11_isWithdrawalDay : Mt := (yX11_isWithdrawalDay, cX11_isWithdrawalDay, 1, (Option.some Jvm.ClassFile.FieldType.boolean), [])
abbrev M_X11_isWithin : Mt := (yX11_isWithin, cX11_isWithin, 3, (Option.some Jvm.ClassFile.FieldType.boolean), [])
abbrev M_X11_keep : Mt := (yX11_keep, cX11_keep, 2, (Option.some Jvm.ClassFile.FieldType.int), [])
abbrev M_X11_letterFor : Mt := (yX11_letterFor, cX11_letterFor, 3, (Option.some Jvm.ClassFile.FieldType.char), [])
abbrev M_X11_lift : Mt := (yX11_lift, cX11_lift, 4, (Option.some Jvm.ClassFile.FieldType.boolean), [])
abbrev M_X11_load : Mt := (yX11_load, cX11_load, 2, (Option.some Jvm.ClassFile.FieldType.int), [])
abbrev M_X11_loadOn : Mt := (yX11_loadOn, cX11_loadOn, 4, (Option.some Jvm.ClassFile.FieldType.int), [])
abbrev M_X11_mark : Mt := (yX11_mark, cX11_mark, 6, (Option.some Jvm.ClassFile.FieldType.boolean), [])
abbrev M_X11_markFormula : Mt := (yX11_markFormula, cX11_markFormula, 3, (Option.some Jvm.ClassFile.FieldType.int), [])
abbrev M_X11_moveIn : Mt := (yX11_moveIn, cX11_moveIn, 6, (Option.some Jvm.ClassFile.FieldType.int), [])
abbrev M_X11_noneFormula : Mt := (yX11_noneFormula, cX11_noneFormula, 3, (Option.some Jvm.ClassFile.FieldType.int), [])
abbrev M_X11_outcome : Mt := (yX11_outcome, cX11_outcome, 4, (Option.some Jvm.ClassFile.FieldType.char), [])
abbrev M_X11_pass : Mt := (yX11_pass, cX11_pass, 3, (Option.some Jvm.ClassFile.FieldType.int), [])
abbrev M_X11_placeOf : Mt := (yX11_placeOf, cX11_placeOf, 5, (Option.some Jvm.ClassFile.FieldType.int), [])
abbrev M_X11_require : Mt := (yX11_require, cX11_require, 5, (Option.some Jvm.ClassFile.FieldType.boolean), [])
abbrev M_X11_requisiteHolds : Mt := (yX11_requisiteHolds, cX11_requisiteHolds, 3, (Option.some Jvm.ClassFile.FieldType.boolean), [])
abbrev M_X11_reserve : Mt := (yX11_reserve, cX11_reserve, 6, (Option.some Jvm.ClassFile.FieldType.int), [])
abbrev M_X11_studentAt : Mt := (yX11_studentAt, cX11_studentAt, 2, (Option.some (Jvm.ClassFile.FieldType.object "Prereqs$Student")), [])
abbrev M_X11_takersOf : Mt := (yX11_takersOf, cX11_takersOf, 4, (Option.some Jvm.ClassFile.FieldType.int), [])
abbrev M_X11_takersOfMajor : Mt := (yX11_takersOfMajor, cX11_takersOfMajor, 6, (Option.some Jvm.ClassFile.FieldType.int), [])
abbrev M_X11_togetherFormula : Mt := (yX11_togetherFormula, cX11_togetherFormula, 2, (Option.some Jvm.ClassFile.FieldType.int), [])
abbrev M_X11_truthsFor : Mt := (yX11_truthsFor, cX11_truthsFor, 6, (Option.some Jvm.ClassFile.FieldType.long), [])
abbrev M_X11_twoFormula : Mt := (yX11_twoFormula, cX11_twoFormula, 6, (Option.some Jvm.ClassFile.FieldType.int), [])
abbrev M_X11_waiting : Mt := (yX11_waiting, cX11_waiting, 2, (Option.some Jvm.ClassFile.FieldType.int), [])
abbrev M_X12_earned : Mt := (yX12_earned, cX12_earned, 5, (Option.some Jvm.ClassFile.FieldType.int), [])
abbrev M_X12_free : Mt := (yX12_free, cX12_free, 6, (Option.some Jvm.ClassFile.FieldType.int), [])
abbrev M_X12_holds : Mt := (yX12_holds, cX12_holds, 5, (Option.some Jvm.ClassFile.FieldType.boolean), [])
abbrev M_X12_init : Mt := (yX12_init, cX12_init, 1, (Option.none : Option Jvm.ClassFile.FieldType), [])
abbrev M_X12_load : Mt := (yX12_load, cX12_load, 5, (Option.some Jvm.ClassFile.FieldType.int), [])
abbrev M_X12_may : Mt := (yX12_may, cX12_may, 4, (Option.some Jvm.ClassFile.FieldType.boolean), [])
abbrev M_X12_of : Mt := (yX12_of, cX12_of, 6, (Option.some Jvm.ClassFile.FieldType.int), [])
abbrev M_X12_would : Mt := (yX12_would, cX12_would, 4, (Option.some Jvm.ClassFile.FieldType.char), [])
abbrev M_X1_init : Mt := (yX1_init, cX1_init, 6, (Option.none : Option Jvm.ClassFile.FieldType), [])
abbrev M_X1_isTrue : Mt := (yX1_isTrue, cX1_isTrue, 6, (Option.some Jvm.ClassFile.FieldType.boolean), [])
abbrev M_X2_allReserved : Mt := (yX2_allReserved, cX2_allReserved, 3, (Option.some Jvm.ClassFile.FieldType.int), [])
abbrev M_X2_init : Mt := (yX2_init, cX2_init, 4, (Option.none : Option Jvm.ClassFile.FieldType), [])
abbrev M_X2_placeFor : Mt := (yX2_placeFor, cX2_placeFor, 3, (Option.some Jvm.ClassFile.FieldType.int), [])
abbrev M_X2_stopWaiting : Mt := (yX2_stopWaiting, cX2_stopWaiting, 3, (Option.none : Option Jvm.ClassFile.FieldType), [])
abbrev M_X3_init : Mt := (yX3_init, cX3_init, 2, (Option.none : Option Jvm.ClassFile.FieldType), [])
abbrev M_X3_isTrue : Mt := (yX3_isTrue, cX3_isTrue, 5, (Option.some Jvm.ClassFile.FieldType.boolean), [])
abbrev M_X4_init : Mt := (yX4_init, cX4_init, 2, (Option.none : Option Jvm.ClassFile.FieldType), [])
abbrev M_X5_init : Mt := (yX5_init, cX5_init, 3, (Option.none : Option Jvm.ClassFile.FieldType), [])
abbrev M_X5_isTrue : Mt := (yX5_isTrue, cX5_isTrue, 5, (Option.some Jvm.ClassFile.FieldType.boolean), [])
abbrev M_X6_init : Mt := (yX6_init, cX6_init, 3, (Option.none : Option Jvm.ClassFile.FieldType), [])
abbrev M_X6_isTrue : Mt := (yX6_isTrue, cX6_isTrue, 5, (Option.some Jvm.ClassFile.FieldType.boolean), [])
abbrev M_X8_addAttempt : Mt := (yX8_addAttempt, cX8_addAttempt, 4, (Option.none : Option Jvm.ClassFile.FieldType), [])
abbrev M_X8_closeTerm : Mt := (yX8_closeTerm, cX8_closeTerm, 3, (Option.some Jvm.ClassFile.FieldType.int), [])
abbrev M_X8_hasPassed : Mt := (yX8_hasPassed, cX8_hasPassed, 2, (Option.some Jvm.ClassFile.FieldType.boolean), [])
abbrev M_X8_init : Mt := (yX8_init, cX8_init, 2, (Option.none : Option Jvm.ClassFile.FieldType), [])
abbrev M_X8_moveCreditIn : Mt := (yX8_moveCreditIn, cX8_moveCreditIn, 2, (Option.none : Option Jvm.ClassFile.FieldType), [])
abbrev M_X9_init : Mt := (yX9_init, cX9_init, 2, (Option.none : Option Jvm.ClassFile.FieldType), [])
abbrev M_X9_isTrue : Mt := (yX9_isTrue, cX9_isTrue, 5, (Option.some Jvm.ClassFile.FieldType.boolean), [])
theorem uw_0 : ∀ w ∈ u_ws RJ0 TJ0 2, w ∈ lw_tbl ∧ pw w = true := by decide +kernel
theorem uw_1 : ∀ w ∈ u_ws RJx00060 TJx00060 6, w ∈ lw_tbl ∧ pw w = true := by decide +kernel
theorem uw_2 : ∀ w ∈ u_ws RJx4a65c TJx4a65c 3, w ∈ lw_tbl ∧ pw w = true := by decide +kernel
theorem uw_3 : ∀ w ∈ u_ws RX0 TX0 10, w ∈ lw_tbl ∧ pw w = true := by decide +kernel
theorem uw_4 : ∀ w ∈ u_ws RX1 TX1 5, w ∈ lw_tbl ∧ pw w = true := by decide +kernel
theorem uw_5 : ∀ w ∈ u_ws RX2 TX2 6, w ∈ lw_tbl ∧ pw w = true := by decide +kernel
theorem uw_6 : ∀ w ∈ u_ws RX3 TX3 2, w ∈ lw_tbl ∧ pw w = true := by decide +kernel
theorem uw_7 : ∀ w ∈ u_ws RX5 TX5 3, w ∈ lw_tbl ∧ pw w = true := by decide +kernel
theorem uw_8 : ∀ w ∈ u_ws RX6 TX6 2, w ∈ lw_tbl ∧ pw w = true := by decide +kernel
theorem uw_9 : ∀ w ∈ u_ws RJ0 TJ0 2, w ∈ lw_tbl ∧ pw w = true := by decide +kernel
theorem uw_10 : ∀ w ∈ u_ws RX8 TX8 7, w ∈ lw_tbl ∧ pw w = true := by decide +kernel
theorem uw_11 : ∀ w ∈ u_ws RX9 TX9 2, w ∈ lw_tbl ∧ pw w = true := by decide +kernel
theorem uw_12 : ∀ w ∈ u_ws RX10 TX10 2, w ∈ lw_tbl ∧ pw w = true := by decide +kernel
theorem uw_13 : ∀ w ∈ u_ws RX11 TX11 12, w ∈ lw_tbl ∧ pw w = true := by decide +kernel
theorem uw_14 : ∀ w ∈ u_ws RX12 TX12 9, w ∈ lw_tbl ∧ pw w = true := by decide +kernel
theorem fl_Jx4a65c_9_2 : FL RJx4a65c 9 2 1 := ⟨(RJx4a65c, TJx4a65c, 3), rfl, by decide, uw_2, List.mem_of_getElem? (i := 95) (by decide +kernel)⟩
theorem fl_Jx4a65c_48_2 : FL RJx4a65c 48 2 2 := ⟨(RJx4a65c, TJx4a65c, 3), rfl, by decide, uw_2, List.mem_of_getElem? (i := 96) (by decide +kernel)⟩
theorem fl_Jxc12de_7_2 : FL RJxc12de 7 2 0 := ⟨(RJx4a65c, TJx4a65c, 3), rfl, by decide, uw_2, List.mem_of_getElem? (i := 97) (by decide +kernel)⟩
theorem fl_X8_33_10 : FL RX8 33 10 0 := ⟨(RX8, TX8, 7), rfl, by decide, uw_10, List.mem_of_getElem? (i := 118) (by decide +kernel)⟩
theorem fl_X0_65_10 : FL RX0 65 10 0 := ⟨(RX8, TX8, 7), rfl, by decide, uw_10, List.mem_of_getElem? (i := 119) (by decide +kernel)⟩
theorem fl_X11_97_10 : FL RX11 97 10 0 := ⟨(RX8, TX8, 7), rfl, by decide, uw_10, List.mem_of_getElem? (i := 120) (by decide +kernel)⟩
theorem fl_X8_9_10 : FL RX8 9 10 1 := ⟨(RX8, TX8, 7), rfl, by decide, uw_10, List.mem_of_getElem? (i := 121) (by decide +kernel)⟩
theorem fl_X9_13_10 : FL RX9 13 10 1 := ⟨(RX8, TX8, 7), rfl, by decide, uw_10, List.mem_of_getElem? (i := 122) (by decide +kernel)⟩
theorem fl_X0_75_10 : FL RX0 75 10 1 := ⟨(RX8, TX8, 7), rfl, by decide, uw_10, List.mem_of_getElem? (i := 123) (by decide +kernel)⟩
theorem fl_X11_214_10 : FL RX11 214 10 1 := ⟨(RX8, TX8, 7), rfl, by decide, uw_10, List.mem_of_getElem? (i := 124) (by decide +kernel)⟩
theorem fl_X8_15_10 : FL RX8 15 10 2 := ⟨(RX8, TX8, 7), rfl, by decide, uw_10, List.mem_of_getElem? (i := 125) (by decide +kernel)⟩
theorem fl_X11_425_10 : FL RX11 425 10 2 := ⟨(RX8, TX8, 7), rfl, by decide, uw_10, List.mem_of_getElem? (i := 126) (by decide +kernel)⟩
theorem fl_X8_18_10 : FL RX8 18 10 3 := ⟨(RX8, TX8, 7), rfl, by decide, uw_10, List.mem_of_getElem? (i := 127) (by decide +kernel)⟩
theorem fl_X11_273_10 : FL RX11 273 10 3 := ⟨(RX8, TX8, 7), rfl, by decide, uw_10, List.mem_of_getElem? (i := 128) (by decide +kernel)⟩
theorem fl_X8_22_10 : FL RX8 22 10 4 := ⟨(RX8, TX8, 7), rfl, by decide, uw_10, List.mem_of_getElem? (i := 129) (by decide +kernel)⟩
theorem fl_X5_16_10 : FL RX5 16 10 4 := ⟨(RX8, TX8, 7), rfl, by decide, uw_10, List.mem_of_getElem? (i := 130) (by decide +kernel)⟩
theorem fl_X0_78_10 : FL RX0 78 10 4 := ⟨(RX8, TX8, 7), rfl, by decide, uw_10, List.mem_of_getElem? (i := 131) (by decide +kernel)⟩
theorem fl_X11_300_10 : FL RX11 300 10 4 := ⟨(RX8, TX8, 7), rfl, by decide, uw_10, List.mem_of_getElem? (i := 132) (by decide +kernel)⟩
theorem fl_X8_25_10 : FL RX8 25 10 5 := ⟨(RX8, TX8, 7), rfl, by decide, uw_10, List.mem_of_getElem? (i := 133) (by decide +kernel)⟩
theorem fl_X11_254_10 : FL RX11 254 10 5 := ⟨(RX8, TX8, 7), rfl, by decide, uw_10, List.mem_of_getElem? (i := 134) (by decide +kernel)⟩
theorem fl_X8_30_10 : FL RX8 30 10 6 := ⟨(RX8, TX8, 7), rfl, by decide, uw_10, List.mem_of_getElem? (i := 135) (by decide +kernel)⟩
theorem fl_X0_40_3 : FL RX0 40 3 0 := ⟨(RX0, TX0, 10), rfl, by decide, uw_3, List.mem_of_getElem? (i := 159) (by decide +kernel)⟩
theorem fl_X0_11_3 : FL RX0 11 3 1 := ⟨(RX0, TX0, 10), rfl, by decide, uw_3, List.mem_of_getElem? (i := 160) (by decide +kernel)⟩
theorem fl_X0_15_3 : FL RX0 15 3 2 := ⟨(RX0, TX0, 10), rfl, by decide, uw_3, List.mem_of_getElem? (i := 161) (by decide +kernel)⟩
theorem fl_X0_18_3 : FL RX0 18 3 3 := ⟨(RX0, TX0, 10), rfl, by decide, uw_3, List.mem_of_getElem? (i := 162) (by decide +kernel)⟩
theorem fl_X0_21_3 : FL RX0 21 3 4 := ⟨(RX0, TX0, 10), rfl, by decide, uw_3, List.mem_of_getElem? (i := 163) (by decide +kernel)⟩
theorem fl_X0_24_3 : FL RX0 24 3 5 := ⟨(RX0, TX0, 10), rfl, by decide, uw_3, List.mem_of_getElem? (i := 164) (by decide +kernel)⟩
theorem fl_X0_27_3 : FL RX0 27 3 6 := ⟨(RX0, TX0, 10), rfl, by decide, uw_3, List.mem_of_getElem? (i := 165) (by decide +kernel)⟩
theorem fl_X0_30_3 : FL RX0 30 3 7 := ⟨(RX0, TX0, 10), rfl, by decide, uw_3, List.mem_of_getElem? (i := 166) (by decide +kernel)⟩
theorem fl_X0_33_3 : FL RX0 33 3 8 := ⟨(RX0, TX0, 10), rfl, by decide, uw_3, List.mem_of_getElem? (i := 167) (by decide +kernel)⟩
theorem fl_X0_36_3 : FL RX0 36 3 9 := ⟨(RX0, TX0, 10), rfl, by decide, uw_3, List.mem_of_getElem? (i := 168) (by decide +kernel)⟩
theorem fl_X10_11_12 : FL RX10 11 12 0 := ⟨(RX10, TX10, 2), rfl, by decide, uw_12, List.mem_of_getElem? (i := 196) (by decide +kernel)⟩
theorem fl_X11_12_13 : FL RX11 12 13 0 := ⟨(RX11, TX11, 12), rfl, by decide, uw_13, List.mem_of_getElem? (i := 203) (by decide +kernel)⟩
theorem fl_X11_16_13 : FL RX11 16 13 1 := ⟨(RX11, TX11, 12), rfl, by decide, uw_13, List.mem_of_getElem? (i := 204) (by decide +kernel)⟩
theorem fl_X11_19_13 : FL RX11 19 13 2 := ⟨(RX11, TX11, 12), rfl, by decide, uw_13, List.mem_of_getElem? (i := 205) (by decide +kernel)⟩
theorem fl_X11_22_13 : FL RX11 22 13 3 := ⟨(RX11, TX11, 12), rfl, by decide, uw_13, List.mem_of_getElem? (i := 206) (by decide +kernel)⟩
theorem fl_X11_25_13 : FL RX11 25 13 4 := ⟨(RX11, TX11, 12), rfl, by decide, uw_13, List.mem_of_getElem? (i := 207) (by decide +kernel)⟩
theorem fl_X11_180_13 : FL RX11 180 13 5 := ⟨(RX11, TX11, 12), rfl, by decide, uw_13, List.mem_of_getElem? (i := 208) (by decide +kernel)⟩
theorem fl_X11_188_13 : FL RX11 188 13 6 := ⟨(RX11, TX11, 12), rfl, by decide, uw_13, List.mem_of_getElem? (i := 209) (by decide +kernel)⟩
theorem fl_X11_34_13 : FL RX11 34 13 7 := ⟨(RX11, TX11, 12), rfl, by decide, uw_13, List.mem_of_getElem? (i := 210) (by decide +kernel)⟩
theorem fl_X11_41_13 : FL RX11 41 13 8 := ⟨(RX11, TX11, 12), rfl, by decide, uw_13, List.mem_of_getElem? (i := 211) (by decide +kernel)⟩
theorem fl_X11_48_13 : FL RX11 48 13 9 := ⟨(RX11, TX11, 12), rfl, by decide, uw_13, List.mem_of_getElem? (i := 212) (by decide +kernel)⟩
theorem fl_X11_52_13 : FL RX11 52 13 10 := ⟨(RX11, TX11, 12), rfl, by decide, uw_13, List.mem_of_getElem? (i := 213) (by decide +kernel)⟩
theorem fl_X11_56_13 : FL RX11 56 13 11 := ⟨(RX11, TX11, 12), rfl, by decide, uw_13, List.mem_of_getElem? (i := 214) (by decide +kernel)⟩
theorem fl_X12_9_14 : FL RX12 9 14 0 := ⟨(RX12, TX12, 9), rfl, by decide, uw_14, List.mem_of_getElem? (i := 431) (by decide +kernel)⟩
theorem fl_X12_13_14 : FL RX12 13 14 1 := ⟨(RX12, TX12, 9), rfl, by decide, uw_14, List.mem_of_getElem? (i := 433) (by decide +kernel)⟩
theorem fl_X12_16_14 : FL RX12 16 14 2 := ⟨(RX12, TX12, 9), rfl, by decide, uw_14, List.mem_of_getElem? (i := 435) (by decide +kernel)⟩
theorem fl_X12_19_14 : FL RX12 19 14 3 := ⟨(RX12, TX12, 9), rfl, by decide, uw_14, List.mem_of_getElem? (i := 437) (by decide +kernel)⟩
theorem fl_X12_22_14 : FL RX12 22 14 4 := ⟨(RX12, TX12, 9), rfl, by decide, uw_14, List.mem_of_getElem? (i := 439) (by decide +kernel)⟩
theorem fl_X12_25_14 : FL RX12 25 14 5 := ⟨(RX12, TX12, 9), rfl, by decide, uw_14, List.mem_of_getElem? (i := 441) (by decide +kernel)⟩
theorem fl_X12_28_14 : FL RX12 28 14 6 := ⟨(RX12, TX12, 9), rfl, by decide, uw_14, List.mem_of_getElem? (i := 443) (by decide +kernel)⟩
theorem fl_X12_31_14 : FL RX12 31 14 7 := ⟨(RX12, TX12, 9), rfl, by decide, uw_14, List.mem_of_getElem? (i := 445) (by decide +kernel)⟩
theorem fl_X12_34_14 : FL RX12 34 14 8 := ⟨(RX12, TX12, 9), rfl, by decide, uw_14, List.mem_of_getElem? (i := 447) (by decide +kernel)⟩
theorem fl_X2_26_5 : FL RX2 26 5 0 := ⟨(RX2, TX2, 6), rfl, by decide, uw_5, List.mem_of_getElem? (i := 570) (by decide +kernel)⟩
theorem fl_X11_428_5 : FL RX11 428 5 0 := ⟨(RX2, TX2, 6), rfl, by decide, uw_5, List.mem_of_getElem? (i := 571) (by decide +kernel)⟩
theorem fl_X2_29_5 : FL RX2 29 5 1 := ⟨(RX2, TX2, 6), rfl, by decide, uw_5, List.mem_of_getElem? (i := 572) (by decide +kernel)⟩
theorem fl_X11_292_5 : FL RX11 292 5 1 := ⟨(RX2, TX2, 6), rfl, by decide, uw_5, List.mem_of_getElem? (i := 573) (by decide +kernel)⟩
theorem fl_X2_32_5 : FL RX2 32 5 2 := ⟨(RX2, TX2, 6), rfl, by decide, uw_5, List.mem_of_getElem? (i := 574) (by decide +kernel)⟩
theorem fl_X11_113_5 : FL RX11 113 5 2 := ⟨(RX2, TX2, 6), rfl, by decide, uw_5, List.mem_of_getElem? (i := 575) (by decide +kernel)⟩
theorem fl_X2_9_5 : FL RX2 9 5 3 := ⟨(RX2, TX2, 6), rfl, by decide, uw_5, List.mem_of_getElem? (i := 576) (by decide +kernel)⟩
theorem fl_X11_110_5 : FL RX11 110 5 3 := ⟨(RX2, TX2, 6), rfl, by decide, uw_5, List.mem_of_getElem? (i := 577) (by decide +kernel)⟩
theorem fl_X2_18_5 : FL RX2 18 5 4 := ⟨(RX2, TX2, 6), rfl, by decide, uw_5, List.mem_of_getElem? (i := 578) (by decide +kernel)⟩
theorem fl_X11_217_5 : FL RX11 217 5 4 := ⟨(RX2, TX2, 6), rfl, by decide, uw_5, List.mem_of_getElem? (i := 579) (by decide +kernel)⟩
theorem fl_X2_22_5 : FL RX2 22 5 5 := ⟨(RX2, TX2, 6), rfl, by decide, uw_5, List.mem_of_getElem? (i := 580) (by decide +kernel)⟩
theorem fl_X11_175_5 : FL RX11 175 5 5 := ⟨(RX2, TX2, 6), rfl, by decide, uw_5, List.mem_of_getElem? (i := 581) (by decide +kernel)⟩
theorem fl_X5_7_7 : FL RX5 7 7 1 := ⟨(RX5, TX5, 3), rfl, by decide, uw_7, List.mem_of_getElem? (i := 712) (by decide +kernel)⟩
theorem fl_X5_13_7 : FL RX5 13 7 2 := ⟨(RX5, TX5, 3), rfl, by decide, uw_7, List.mem_of_getElem? (i := 713) (by decide +kernel)⟩
theorem fl_X4_9_4 : FL RX4 9 4 0 := ⟨(RX1, TX1, 5), rfl, by decide, uw_4, List.mem_of_getElem? (i := 714) (by decide +kernel)⟩
theorem fl_X4_9_6 : FL RX4 9 6 0 := ⟨(RX3, TX3, 2), rfl, by decide, uw_6, List.mem_of_getElem? (i := 714) (by decide +kernel)⟩
theorem fl_X4_9_7 : FL RX4 9 7 0 := ⟨(RX5, TX5, 3), rfl, by decide, uw_7, List.mem_of_getElem? (i := 714) (by decide +kernel)⟩
theorem fl_X4_9_8 : FL RX4 9 8 0 := ⟨(RX6, TX6, 2), rfl, by decide, uw_8, List.mem_of_getElem? (i := 714) (by decide +kernel)⟩
theorem fl_X4_9_11 : FL RX4 9 11 0 := ⟨(RX9, TX9, 2), rfl, by decide, uw_11, List.mem_of_getElem? (i := 714) (by decide +kernel)⟩
theorem fl_X11_148_4 : FL RX11 148 4 0 := ⟨(RX1, TX1, 5), rfl, by decide, uw_4, List.mem_of_getElem? (i := 715) (by decide +kernel)⟩
theorem fl_X11_148_6 : FL RX11 148 6 0 := ⟨(RX3, TX3, 2), rfl, by decide, uw_6, List.mem_of_getElem? (i := 715) (by decide +kernel)⟩
theorem fl_X11_148_7 : FL RX11 148 7 0 := ⟨(RX5, TX5, 3), rfl, by decide, uw_7, List.mem_of_getElem? (i := 715) (by decide +kernel)⟩
theorem fl_X11_148_8 : FL RX11 148 8 0 := ⟨(RX6, TX6, 2), rfl, by decide, uw_8, List.mem_of_getElem? (i := 715) (by decide +kernel)⟩
theorem fl_X11_148_11 : FL RX11 148 11 0 := ⟨(RX9, TX9, 2), rfl, by decide, uw_11, List.mem_of_getElem? (i := 715) (by decide +kernel)⟩
theorem fl_X9_7_11 : FL RX9 7 11 1 := ⟨(RX9, TX9, 2), rfl, by decide, uw_11, List.mem_of_getElem? (i := 737) (by decide +kernel)⟩
theorem fl_X3_7_6 : FL RX3 7 6 1 := ⟨(RX3, TX3, 2), rfl, by decide, uw_6, List.mem_of_getElem? (i := 753) (by decide +kernel)⟩
theorem fl_X1_9_4 : FL RX1 9 4 1 := ⟨(RX1, TX1, 5), rfl, by decide, uw_4, List.mem_of_getElem? (i := 788) (by decide +kernel)⟩
theorem fl_X1_15_4 : FL RX1 15 4 2 := ⟨(RX1, TX1, 5), rfl, by decide, uw_4, List.mem_of_getElem? (i := 789) (by decide +kernel)⟩
theorem fl_X1_18_4 : FL RX1 18 4 3 := ⟨(RX1, TX1, 5), rfl, by decide, uw_4, List.mem_of_getElem? (i := 790) (by decide +kernel)⟩
theorem fl_X1_21_4 : FL RX1 21 4 4 := ⟨(RX1, TX1, 5), rfl, by decide, uw_4, List.mem_of_getElem? (i := 791) (by decide +kernel)⟩
theorem fl_X6_7_8 : FL RX6 7 8 1 := ⟨(RX6, TX6, 2), rfl, by decide, uw_8, List.mem_of_getElem? (i := 820) (by decide +kernel)⟩
theorem fp_2_0 : FP 2 0 .int false := fun q hq => by obtain rfl := (Option.some.inj hq : ((RJx4a65c, TJx4a65c, 3) : vw_C) = q); exact ⟨⟨tyJx4a65c, tyJx4a65c_ok⟩, nmJx4a65c, by decide +kernel, by decide +kernel⟩
theorem fp_2_1 : FP 2 1 (.array (.object "java/lang/Object")) false := fun q hq => by obtain rfl := (Option.some.inj hq : ((RJx4a65c, TJx4a65c, 3) : vw_C) = q); exact ⟨⟨tyJx4a65c, tyJx4a65c_ok⟩, nmJx4a65c, by decide +kernel, by decide +kernel⟩
theorem fp_2_2 : FP 2 2 .int false := fun q hq => by obtain rfl := (Option.some.inj hq : ((RJx4a65c, TJx4a65c, 3) : vw_C) = q); exact ⟨⟨tyJx4a65c, tyJx4a65c_ok⟩, nmJx4a65c, by decide +kernel, by decide +kernel⟩
theorem fp_3_0 : FP 3 0 .int false := fun q hq => by obtain rfl := (Option.some.inj hq : ((RX0, TX0, 10) : vw_C) = q); exact ⟨⟨tyX0, tyX0_ok⟩, nmX0, by decide +kernel, by decide +kernel⟩
theorem fp_3_1 : FP 3 1 (.array .int) true := fun q hq => by obtain rfl := (Option.some.inj hq : ((RX0, TX0, 10) : vw_C) = q); exact ⟨⟨tyX0, tyX0_ok⟩, nmX0, by decide +kernel, by decide +kernel⟩
theorem fp_3_2 : FP 3 2 (.array .int) true := fun q hq => by obtain rfl := (Option.some.inj hq : ((RX0, TX0, 10) : vw_C) = q); exact ⟨⟨tyX0, tyX0_ok⟩, nmX0, by decide +kernel, by decide +kernel⟩
theorem fp_3_3 : FP 3 3 (.array .int) true := fun q hq => by obtain rfl := (Option.some.inj hq : ((RX0, TX0, 10) : vw_C) = q); exact ⟨⟨tyX0, tyX0_ok⟩, nmX0, by decide +kernel, by decide +kernel⟩
theorem fp_3_4 : FP 3 4 (.array .int) true := fun q hq => by obtain rfl := (Option.some.inj hq : ((RX0, TX0, 10) : vw_C) = q); exact ⟨⟨tyX0, tyX0_ok⟩, nmX0, by decide +kernel, by decide +kernel⟩
theorem fp_3_5 : FP 3 5 (.array .int) true := fun q hq => by obtain rfl := (Option.some.inj hq : ((RX0, TX0, 10) : vw_C) = q); exact ⟨⟨tyX0, tyX0_ok⟩, nmX0, by decide +kernel, by decide +kernel⟩
theorem fp_3_6 : FP 3 6 (.array .int) true := fun q hq => by obtain rfl := (Option.some.inj hq : ((RX0, TX0, 10) : vw_C) = q); exact ⟨⟨tyX0, tyX0_ok⟩, nmX0, by decide +kernel, by decide +kernel⟩
theorem fp_3_7 : FP 3 7 (.array .int) true := fun q hq => by obtain rfl := (Option.some.inj hq : ((RX0, TX0, 10) : vw_C) = q); exact ⟨⟨tyX0, tyX0_ok⟩, nmX0, by decide +kernel, by decide +kernel⟩
theorem fp_3_8 : FP 3 8 (.array .int) true := fun q hq => by obtain rfl := (Option.some.inj hq : ((RX0, TX0, 10) : vw_C) = q); exact ⟨⟨tyX0, tyX0_ok⟩, nmX0, by decide +kernel, by decide +kernel⟩
theorem fp_3_9 : FP 3 9 (.array .boolean) true := fun q hq => by obtain rfl := (Option.some.inj hq : ((RX0, TX0, 10) : vw_C) = q); exact ⟨⟨tyX0, tyX0_ok⟩, nmX0, by decide +kernel, by decide +kernel⟩
theorem fp_4_0 : FP 4 0 .int true := fun q hq => by obtain rfl := (Option.some.inj hq : ((RX1, TX1, 5) : vw_C) = q); exact ⟨⟨tyX1, tyX1_ok⟩, nmX1, by decide +kernel, by decide +kernel⟩
theorem fp_4_1 : FP 4 1 .int true := fun q hq => by obtain rfl := (Option.some.inj hq : ((RX1, TX1, 5) : vw_C) = q); exact ⟨⟨tyX1, tyX1_ok⟩, nmX1, by decide +kernel, by decide +kernel⟩
theorem fp_4_2 : FP 4 2 .int true := fun q hq => by obtain rfl := (Option.some.inj hq : ((RX1, TX1, 5) : vw_C) = q); exact ⟨⟨tyX1, tyX1_ok⟩, nmX1, by decide +kernel, by decide +kernel⟩
theorem fp_4_3 : FP 4 3 .int true := fun q hq => by obtain rfl := (Option.some.inj hq : ((RX1, TX1, 5) : vw_C) = q); exact ⟨⟨tyX1, tyX1_ok⟩, nmX1, by decide +kernel, by decide +kernel⟩
theorem fp_4_4 : FP 4 4 .int true := fun q hq => by obtain rfl := (Option.some.inj hq : ((RX1, TX1, 5) : vw_C) = q); exact ⟨⟨tyX1, tyX1_ok⟩, nmX1, by decide +kernel, by decide +kernel⟩
theorem fp_5_0 : FP 5 0 .int true := fun q hq => by obtain rfl := (Option.some.inj hq : ((RX2, TX2, 6) : vw_C) = q); exact ⟨⟨tyX2, tyX2_ok⟩, nmX2, by decide +kernel, by decide +kernel⟩
theorem fp_5_1 : FP 5 1 .int true := fun q hq => by obtain rfl := (Option.some.inj hq : ((RX2, TX2, 6) : vw_C) = q); exact ⟨⟨tyX2, tyX2_ok⟩, nmX2, by decide +kernel, by decide +kernel⟩
theorem fp_5_2 : FP 5 2 .int true := fun q hq => by obtain rfl := (Option.some.inj hq : ((RX2, TX2, 6) : vw_C) = q); exact ⟨⟨tyX2, tyX2_ok⟩, nmX2, by decide +kernel, by decide +kernel⟩
theorem fp_5_3 : FP 5 3 (.array .int) true := fun q hq => by obtain rfl := (Option.some.inj hq : ((RX2, TX2, 6) : vw_C) = q); exact ⟨⟨tyX2, tyX2_ok⟩, nmX2, by decide +kernel, by decide +kernel⟩
theorem fp_5_4 : FP 5 4 (.object "java/util/ArrayList") true := fun q hq => by obtain rfl := (Option.some.inj hq : ((RX2, TX2, 6) : vw_C) = q); exact ⟨⟨tyX2, tyX2_ok⟩, nmX2, by decide +kernel, by decide +kernel⟩
theorem fp_5_5 : FP 5 5 .int false := fun q hq => by obtain rfl := (Option.some.inj hq : ((RX2, TX2, 6) : vw_C) = q); exact ⟨⟨tyX2, tyX2_ok⟩, nmX2, by decide +kernel, by decide +kernel⟩
theorem fp_6_0 : FP 6 0 .int true := fun q hq => by obtain rfl := (Option.some.inj hq : ((RX3, TX3, 2) : vw_C) = q); exact ⟨⟨tyX3, tyX3_ok⟩, nmX3, by decide +kernel, by decide +kernel⟩
theorem fp_6_1 : FP 6 1 .int true := fun q hq => by obtain rfl := (Option.some.inj hq : ((RX3, TX3, 2) : vw_C) = q); exact ⟨⟨tyX3, tyX3_ok⟩, nmX3, by decide +kernel, by decide +kernel⟩
theorem fp_7_0 : FP 7 0 .int true := fun q hq => by obtain rfl := (Option.some.inj hq : ((RX5, TX5, 3) : vw_C) = q); exact ⟨⟨tyX5, tyX5_ok⟩, nmX5, by decide +kernel, by decide +kernel⟩
theorem fp_7_1 : FP 7 1 .int true := fun q hq => by obtain rfl := (Option.some.inj hq : ((RX5, TX5, 3) : vw_C) = q); exact ⟨⟨tyX5, tyX5_ok⟩, nmX5, by decide +kernel, by decide +kernel⟩
theorem fp_7_2 : FP 7 2 .int true := fun q hq => by obtain rfl := (Option.some.inj hq : ((RX5, TX5, 3) : vw_C) = q); exact ⟨⟨tyX5, tyX5_ok⟩, nmX5, by decide +kernel, by decide +kernel⟩
theorem fp_8_0 : FP 8 0 .int true := fun q hq => by obtain rfl := (Option.some.inj hq : ((RX6, TX6, 2) : vw_C) = q); exact ⟨⟨tyX6, tyX6_ok⟩, nmX6, by decide +kernel, by decide +kernel⟩
theorem fp_8_1 : FP 8 1 .int true := fun q hq => by obtain rfl := (Option.some.inj hq : ((RX6, TX6, 2) : vw_C) = q); exact ⟨⟨tyX6, tyX6_ok⟩, nmX6, by decide +kernel, by decide +kernel⟩
theorem fp_10_0 : FP 10 0 .int false := fun q hq => by obtain rfl := (Option.some.inj hq : ((RX8, TX8, 7) : vw_C) = q); exact ⟨⟨tyX8, tyX8_ok⟩, nmX8, by decide +kernel, by decide +kernel⟩
theorem fp_10_1 : FP 10 1 (.array .boolean) true := fun q hq => by obtain rfl := (Option.some.inj hq : ((RX8, TX8, 7) : vw_C) = q); exact ⟨⟨tyX8, tyX8_ok⟩, nmX8, by decide +kernel, by decide +kernel⟩
theorem fp_10_2 : FP 10 2 (.array .boolean) true := fun q hq => by obtain rfl := (Option.some.inj hq : ((RX8, TX8, 7) : vw_C) = q); exact ⟨⟨tyX8, tyX8_ok⟩, nmX8, by decide +kernel, by decide +kernel⟩
theorem fp_10_3 : FP 10 3 (.array .int) true := fun q hq => by obtain rfl := (Option.some.inj hq : ((RX8, TX8, 7) : vw_C) = q); exact ⟨⟨tyX8, tyX8_ok⟩, nmX8, by decide +kernel, by decide +kernel⟩
theorem fp_10_4 : FP 10 4 (.array .int) true := fun q hq => by obtain rfl := (Option.some.inj hq : ((RX8, TX8, 7) : vw_C) = q); exact ⟨⟨tyX8, tyX8_ok⟩, nmX8, by decide +kernel, by decide +kernel⟩
theorem fp_10_5 : FP 10 5 (.array .int) true := fun q hq => by obtain rfl := (Option.some.inj hq : ((RX8, TX8, 7) : vw_C) = q); exact ⟨⟨tyX8, tyX8_ok⟩, nmX8, by decide +kernel, by decide +kernel⟩
theorem fp_10_6 : FP 10 6 (.array (.array .int)) true := fun q hq => by obtain rfl := (Option.some.inj hq : ((RX8, TX8, 7) : vw_C) = q); exact ⟨⟨tyX8, tyX8_ok⟩, nmX8, by decide +kernel, by decide +kernel⟩
theorem fp_11_0 : FP 11 0 .int true := fun q hq => by obtain rfl := (Option.some.inj hq : ((RX9, TX9, 2) : vw_C) = q); exact ⟨⟨tyX9, tyX9_ok⟩, nmX9, by decide +kernel, by decide +kernel⟩
theorem fp_11_1 : FP 11 1 .int true := fun q hq => by obtain rfl := (Option.some.inj hq : ((RX9, TX9, 2) : vw_C) = q); exact ⟨⟨tyX9, tyX9_ok⟩, nmX9, by decide +kernel, by decide +kernel⟩
theorem fp_12_0 : FP 12 0 (.array .char) true := fun q hq => by obtain rfl := (Option.some.inj hq : ((RX10, TX10, 2) : vw_C) = q); exact ⟨⟨tyX10, tyX10_ok⟩, nmX10, by decide +kernel, by decide +kernel⟩
theorem fp_12_1 : FP 12 1 .int false := fun q hq => by obtain rfl := (Option.some.inj hq : ((RX10, TX10, 2) : vw_C) = q); exact ⟨⟨tyX10, tyX10_ok⟩, nmX10, by decide +kernel, by decide +kernel⟩
theorem fp_13_0 : FP 13 0 (.object "java/util/ArrayList") true := fun q hq => by obtain rfl := (Option.some.inj hq : ((RX11, TX11, 12) : vw_C) = q); exact ⟨⟨tyX11, tyX11_ok⟩, nmX11, by decide +kernel, by decide +kernel⟩
theorem fp_13_1 : FP 13 1 (.object "java/util/ArrayList") true := fun q hq => by obtain rfl := (Option.some.inj hq : ((RX11, TX11, 12) : vw_C) = q); exact ⟨⟨tyX11, tyX11_ok⟩, nmX11, by decide +kernel, by decide +kernel⟩
theorem fp_13_2 : FP 13 2 (.object "java/util/ArrayList") true := fun q hq => by obtain rfl := (Option.some.inj hq : ((RX11, TX11, 12) : vw_C) = q); exact ⟨⟨tyX11, tyX11_ok⟩, nmX11, by decide +kernel, by decide +kernel⟩
theorem fp_13_3 : FP 13 3 (.object "java/util/ArrayList") true := fun q hq => by obtain rfl := (Option.some.inj hq : ((RX11, TX11, 12) : vw_C) = q); exact ⟨⟨tyX11, tyX11_ok⟩, nmX11, by decide +kernel, by decide +kernel⟩
theorem fp_13_4 : FP 13 4 (.array .int) true := fun q hq => by obtain rfl := (Option.some.inj hq : ((RX11, TX11, 12) : vw_C) = q); exact ⟨⟨tyX11, tyX11_ok⟩, nmX11, by decide +kernel, by decide +kernel⟩
theorem fp_13_5 : FP 13 5 .int false := fun q hq => by obtain rfl := (Option.some.inj hq : ((RX11, TX11, 12) : vw_C) = q); exact ⟨⟨tyX11, tyX11_ok⟩, nmX11, by decide +kernel, by decide +kernel⟩
theorem fp_13_6 : FP 13 6 .int false := fun q hq => by obtain rfl := (Option.some.inj hq : ((RX11, TX11, 12) : vw_C) = q); exact ⟨⟨tyX11, tyX11_ok⟩, nmX11, by decide +kernel, by decide +kernel⟩
theorem fp_13_7 : FP 13 7 (.object "Prereqs$Student") true := fun q hq => by obtain rfl := (Option.some.inj hq : ((RX11, TX11, 12) : vw_C) = q); exact ⟨⟨tyX11, tyX11_ok⟩, nmX11, by decide +kernel, by decide +kernel⟩
theorem fp_13_8 : FP 13 8 (.object "Prereqs$Audit") true := fun q hq => by obtain rfl := (Option.some.inj hq : ((RX11, TX11, 12) : vw_C) = q); exact ⟨⟨tyX11, tyX11_ok⟩, nmX11, by decide +kernel, by decide +kernel⟩
theorem fp_13_9 : FP 13 9 (.object "Prereqs$Transcript") true := fun q hq => by obtain rfl := (Option.some.inj hq : ((RX11, TX11, 12) : vw_C) = q); exact ⟨⟨tyX11, tyX11_ok⟩, nmX11, by decide +kernel, by decide +kernel⟩
theorem fp_13_10 : FP 13 10 (.array .boolean) true := fun q hq => by obtain rfl := (Option.some.inj hq : ((RX11, TX11, 12) : vw_C) = q); exact ⟨⟨tyX11, tyX11_ok⟩, nmX11, by decide +kernel, by decide +kernel⟩
theorem fp_13_11 : FP 13 11 (.array .int) true := fun q hq => by obtain rfl := (Option.some.inj hq : ((RX11, TX11, 12) : vw_C) = q); exact ⟨⟨tyX11, tyX11_ok⟩, nmX11, by decide +kernel, by decide +kernel⟩
theorem fp_14_0 : FP 14 0 (.array .int) true := fun q hq => by obtain rfl := (Option.some.inj hq : ((RX12, TX12, 9) : vw_C) = q); exact ⟨⟨tyX12, tyX12_ok⟩, nmX12, by decide +kernel, by decide +kernel⟩
theorem fp_14_1 : FP 14 1 (.array .int) true := fun q hq => by obtain rfl := (Option.some.inj hq : ((RX12, TX12, 9) : vw_C) = q); exact ⟨⟨tyX12, tyX12_ok⟩, nmX12, by decide +kernel, by decide +kernel⟩
theorem fp_14_2 : FP 14 2 (.array .int) true := fun q hq => by obtain rfl := (Option.some.inj hq : ((RX12, TX12, 9) : vw_C) = q); exact ⟨⟨tyX12, tyX12_ok⟩, nmX12, by decide +kernel, by decide +kernel⟩
theorem fp_14_3 : FP 14 3 (.array .int) true := fun q hq => by obtain rfl := (Option.some.inj hq : ((RX12, TX12, 9) : vw_C) = q); exact ⟨⟨tyX12, tyX12_ok⟩, nmX12, by decide +kernel, by decide +kernel⟩
theorem fp_14_4 : FP 14 4 (.array .int) true := fun q hq => by obtain rfl := (Option.some.inj hq : ((RX12, TX12, 9) : vw_C) = q); exact ⟨⟨tyX12, tyX12_ok⟩, nmX12, by decide +kernel, by decide +kernel⟩
theorem fp_14_5 : FP 14 5 (.array .int) true := fun q hq => by obtain rfl := (Option.some.inj hq : ((RX12, TX12, 9) : vw_C) = q); exact ⟨⟨tyX12, tyX12_ok⟩, nmX12, by decide +kernel, by decide +kernel⟩
theorem fp_14_6 : FP 14 6 (.array .int) true := fun q hq => by obtain rfl := (Option.some.inj hq : ((RX12, TX12, 9) : vw_C) = q); exact ⟨⟨tyX12, tyX12_ok⟩, nmX12, by decide +kernel, by decide +kernel⟩
theorem fp_14_7 : FP 14 7 (.array .int) true := fun q hq => by obtain rfl := (Option.some.inj hq : ((RX12, TX12, 9) : vw_C) = q); exact ⟨⟨tyX12, tyX12_ok⟩, nmX12, by decide +kernel, by decide +kernel⟩
theorem fp_14_8 : FP 14 8 (.array .int) true := fun q hq => by obtain rfl := (Option.some.inj hq : ((RX12, TX12, 9) : vw_C) = q); exact ⟨⟨tyX12, tyX12_ok⟩, nmX12, by decide +kernel, by decide +kernel⟩
theorem nw_X2_15 : NW RX2 15 2 [.int 0, .null, .int 0] := ⟨(RJx4a65c, TJx4a65c, 3), rfl, uw_2, ⟨tyJx4a65c, tyJx4a65c_ok, by decide +kernel⟩, rfl, List.mem_of_getElem? (i := 568) (by decide +kernel), List.mem_of_getElem? (i := 82) (by decide +kernel), List.mem_of_getElem? (i := 44) (by decide +kernel)⟩
theorem nw_X11_9 : NW RX11 9 2 [.int 0, .null, .int 0] := ⟨(RJx4a65c, TJx4a65c, 3), rfl, uw_2, ⟨tyJx4a65c, tyJx4a65c_ok, by decide +kernel⟩, rfl, List.mem_of_getElem? (i := 81) (by decide +kernel), List.mem_of_getElem? (i := 82) (by decide +kernel), List.mem_of_getElem? (i := 44) (by decide +kernel)⟩
theorem nw_X11_29 : NW RX11 29 10 [.int 0, .null, .null, .null, .null, .null, .null] := ⟨(RX8, TX8, 7), rfl, uw_10, ⟨tyX8, tyX8_ok, by decide +kernel⟩, rfl, List.mem_of_getElem? (i := 107) (by decide +kernel), List.mem_of_getElem? (i := 108) (by decide +kernel), List.mem_of_getElem? (i := 45) (by decide +kernel)⟩
theorem nw_X11_38 : NW RX11 38 3 [.int 0, .null, .null, .null, .null, .null, .null, .null, .null, .null] := ⟨(RX0, TX0, 10), rfl, uw_3, ⟨tyX0, tyX0_ok, by decide +kernel⟩, rfl, List.mem_of_getElem? (i := 153) (by decide +kernel), List.mem_of_getElem? (i := 154) (by decide +kernel), List.mem_of_getElem? (i := 47) (by decide +kernel)⟩
theorem nw_X11_45 : NW RX11 45 12 [.null, .int 0] := ⟨(RX10, TX10, 2), rfl, uw_12, ⟨tyX10, tyX10_ok, by decide +kernel⟩, rfl, List.mem_of_getElem? (i := 190) (by decide +kernel), List.mem_of_getElem? (i := 191) (by decide +kernel), List.mem_of_getElem? (i := 48) (by decide +kernel)⟩
theorem nw_X11_79 : NW RX11 79 5 [.int 0, .int 0, .int 0, .null, .null, .int 0] := ⟨(RX2, TX2, 6), rfl, uw_5, ⟨tyX2, tyX2_ok, by decide +kernel⟩, rfl, List.mem_of_getElem? (i := 262) (by decide +kernel), List.mem_of_getElem? (i := 563) (by decide +kernel), List.mem_of_getElem? (i := 55) (by decide +kernel)⟩
theorem nw_X11_127 : NW RX11 127 7 [.int 0, .int 0, .int 0] := ⟨(RX5, TX5, 3), rfl, uw_7, ⟨tyX5, tyX5_ok, by decide +kernel⟩, rfl, List.mem_of_getElem? (i := 703) (by decide +kernel), List.mem_of_getElem? (i := 704) (by decide +kernel), List.mem_of_getElem? (i := 63) (by decide +kernel)⟩
theorem nw_X11_136 : NW RX11 136 11 [.int 0, .int 0] := ⟨(RX9, TX9, 2), rfl, uw_11, ⟨tyX9, tyX9_ok, by decide +kernel⟩, rfl, List.mem_of_getElem? (i := 731) (by decide +kernel), List.mem_of_getElem? (i := 732) (by decide +kernel), List.mem_of_getElem? (i := 64) (by decide +kernel)⟩
theorem nw_X11_141 : NW RX11 141 6 [.int 0, .int 0] := ⟨(RX3, TX3, 2), rfl, uw_6, ⟨tyX3, tyX3_ok, by decide +kernel⟩, rfl, List.mem_of_getElem? (i := 747) (by decide +kernel), List.mem_of_getElem? (i := 748) (by decide +kernel), List.mem_of_getElem? (i := 65) (by decide +kernel)⟩
theorem nw_X11_159 : NW RX11 159 4 [.int 0, .int 0, .int 0, .int 0, .int 0] := ⟨(RX1, TX1, 5), rfl, uw_4, ⟨tyX1, tyX1_ok, by decide +kernel⟩, rfl, List.mem_of_getElem? (i := 782) (by decide +kernel), List.mem_of_getElem? (i := 783) (by decide +kernel), List.mem_of_getElem? (i := 67) (by decide +kernel)⟩
theorem nw_X11_164 : NW RX11 164 8 [.int 0, .int 0] := ⟨(RX6, TX6, 2), rfl, uw_8, ⟨tyX6, tyX6_ok, by decide +kernel⟩, rfl, List.mem_of_getElem? (i := 814) (by decide +kernel), List.mem_of_getElem? (i := 815) (by decide +kernel), List.mem_of_getElem? (i := 68) (by decide +kernel)⟩
theorem nw_L_37 : NW RL 37 14 [.null, .null, .null, .null, .null, .null, .null, .null, .null] := ⟨(RX12, TX12, 9), rfl, uw_14, ⟨tyX12, tyX12_ok, by decide +kernel⟩, rfl, List.mem_of_getElem? (i := 425) (by decide +kernel), List.mem_of_getElem? (i := 426) (by decide +kernel), List.mem_of_getElem? (i := 49) (by decide +kernel)⟩
theorem nw_L_10 : NW RL 10 13 [.null, .null, .null, .null, .null, .int 0, .int 0, .null, .null, .null, .null, .null] := ⟨(RX11, TX11, 12), rfl, uw_13, ⟨tyX11, tyX11_ok, by decide +kernel⟩, rfl, List.mem_of_getElem? (i := 73) (by decide +kernel), List.mem_of_getElem? (i := 74) (by decide +kernel), List.mem_of_getElem? (i := 41) (by decide +kernel)⟩
theorem lk_L_206 : LK RL 206 M_X11_init 0 := ⟨rfl, List.mem_of_getElem? (i := 75) (by decide +kernel), List.mem_of_getElem? (i := 77) (by decide +kernel), List.mem_of_getElem? (i := 41) (by decide +kernel), by decide, by decide +kernel, by decide +kernel, by decide +kernel⟩
theorem lki_L_206 : LKi RL 206 M_X11_init 0 := ⟨lk_L_206, List.mem_of_getElem? (i := 76) (by decide +kernel), rfl, rfl⟩
theorem lk_X11_11 : LK RX11 11 M_Jx4a65c_init_da8c8 0 := ⟨rfl, List.mem_of_getElem? (i := 83) (by decide +kernel), List.mem_of_getElem? (i := 85) (by decide +kernel), List.mem_of_getElem? (i := 44) (by decide +kernel), by decide, by decide +kernel, by decide +kernel, by decide +kernel⟩
theorem lki_X11_11 : LKi RX11 11 M_Jx4a65c_init_da8c8 0 := ⟨lk_X11_11, List.mem_of_getElem? (i := 84) (by decide +kernel), rfl, rfl⟩
theorem lk_Jx4a65c_1 : LK RJx4a65c 1 M_Jxc12de_init_da8c8 0 := ⟨rfl, List.mem_of_getElem? (i := 86) (by decide +kernel), List.mem_of_getElem? (i := 88) (by decide +kernel), List.mem_of_getElem? (i := 43) (by decide +kernel), by decide, by decide +kernel, by decide +kernel, by decide +kernel⟩
theorem lki_Jx4a65c_1 : LKi RJx4a65c 1 M_Jxc12de_init_da8c8 0 := ⟨lk_Jx4a65c_1, List.mem_of_getElem? (i := 87) (by decide +kernel), rfl, rfl⟩
theorem lk_Jxc12de_1 : LK RJxc12de 1 M_Jxa1e45_init_da8c8 0 := ⟨rfl, List.mem_of_getElem? (i := 89) (by decide +kernel), List.mem_of_getElem? (i := 91) (by decide +kernel), List.mem_of_getElem? (i := 42) (by decide +kernel), by decide, by decide +kernel, by decide +kernel, by decide +kernel⟩
theorem lki_Jxc12de_1 : LKi RJxc12de 1 M_Jxa1e45_init_da8c8 0 := ⟨lk_Jxc12de_1, List.mem_of_getElem? (i := 90) (by decide +kernel), rfl, rfl⟩
theorem lk_X11_31 : LK RX11 31 M_X8_init 1 := ⟨rfl, List.mem_of_getElem? (i := 109) (by decide +kernel), List.mem_of_getElem? (i := 111) (by decide +kernel), List.mem_of_getElem? (i := 45) (by decide +kernel), by decide, by decide +kernel, by decide +kernel, by decide +kernel⟩
theorem lki_X11_31 : LKi RX11 31 M_X8_init 1 := ⟨lk_X11_31, List.mem_of_getElem? (i := 110) (by decide +kernel), rfl, rfl⟩
theorem lk_X8_37 : LK RX8 37 M_J7_fill_53178 2 := ⟨rfl, List.mem_of_getElem? (i := 115) (by decide +kernel), List.mem_of_getElem? (i := 117) (by decide +kernel), List.mem_of_getElem? (i := 46) (by decide +kernel), by decide, by decide +kernel, by decide +kernel, by decide +kernel⟩
theorem lks_X8_37 : LKs RX8 37 M_J7_fill_53178 2 := ⟨lk_X8_37, List.mem_of_getElem? (i := 116) (by decide +kernel)⟩
theorem lk_L_228 : LK RL 228 M_X11_isSound 0 := ⟨rfl, List.mem_of_getElem? (i := 240) (by decide +kernel), List.mem_of_getElem? (i := 243) (by decide +kernel), List.mem_of_getElem? (i := 41) (by decide +kernel), by decide, by decide +kernel, by decide +kernel, by decide +kernel⟩
theorem lkv_L_228 : LKv RL 228 M_X11_isSound 0 := ⟨lk_L_228, List.mem_of_getElem? (i := 241) (by decide +kernel), List.mem_of_getElem? (i := 242) (by decide +kernel)⟩
theorem lk_X11_70 : LK RX11 70 M_Jx4a65c_size_8abf5 0 := ⟨rfl, List.mem_of_getElem? (i := 244) (by decide +kernel), List.mem_of_getElem? (i := 247) (by decide +kernel), List.mem_of_getElem? (i := 44) (by decide +kernel), by decide, by decide +kernel, by decide +kernel, by decide +kernel⟩
theorem lkv_X11_70 : LKv RX11 70 M_Jx4a65c_size_8abf5 0 := ⟨lk_X11_70, List.mem_of_getElem? (i := 245) (by decide +kernel), List.mem_of_getElem? (i := 246) (by decide +kernel)⟩
theorem lk_X11_276 : LK RX11 276 M_Jx4a65c_get_915e3 1 := ⟨rfl, List.mem_of_getElem? (i := 248) (by decide +kernel), List.mem_of_getElem? (i := 251) (by decide +kernel), List.mem_of_getElem? (i := 44) (by decide +kernel), by decide, by decide +kernel, by decide +kernel, by decide +kernel⟩
theorem lkv_X11_276 : LKv RX11 276 M_Jx4a65c_get_915e3 1 := ⟨lk_X11_276, List.mem_of_getElem? (i := 249) (by decide +kernel), List.mem_of_getElem? (i := 250) (by decide +kernel)⟩
theorem lk_Jx4a65c_118 : LK RJx4a65c 118 M_J15_checkIndex_7cf53 2 := ⟨rfl, List.mem_of_getElem? (i := 252) (by decide +kernel), List.mem_of_getElem? (i := 254) (by decide +kernel), List.mem_of_getElem? (i := 60) (by decide +kernel), by decide, by decide +kernel, by decide +kernel, by decide +kernel⟩
theorem lks_Jx4a65c_118 : LKs RJx4a65c 118 M_J15_checkIndex_7cf53 2 := ⟨lk_Jx4a65c_118, List.mem_of_getElem? (i := 253) (by decide +kernel)⟩
theorem lk_J15_105 : LK RJ15 105 M_J3_checkIndex_8e157 3 := ⟨rfl, List.mem_of_getElem? (i := 255) (by decide +kernel), List.mem_of_getElem? (i := 257) (by decide +kernel), List.mem_of_getElem? (i := 61) (by decide +kernel), by decide, by decide +kernel, by decide +kernel, by decide +kernel⟩
theorem lks_J15_105 : LKs RJ15 105 M_J3_checkIndex_8e157 3 := ⟨lk_J15_105, List.mem_of_getElem? (i := 256) (by decide +kernel)⟩
theorem lk_Jx4a65c_123 : LK RJx4a65c 123 M_Jx4a65c_elementData_915e3 1 := ⟨rfl, List.mem_of_getElem? (i := 258) (by decide +kernel), List.mem_of_getElem? (i := 261) (by decide +kernel), List.mem_of_getElem? (i := 44) (by decide +kernel), by decide, by decide +kernel, by decide +kernel, by decide +kernel⟩
theorem lkv_Jx4a65c_123 : LKv RJx4a65c 123 M_Jx4a65c_elementData_915e3 1 := ⟨lk_Jx4a65c_123, List.mem_of_getElem? (i := 259) (by decide +kernel), List.mem_of_getElem? (i := 260) (by decide +kernel)⟩
theorem lk_X11_387 : LK RX11 387 M_X11_isCourseSound 1 := ⟨rfl, List.mem_of_getElem? (i := 263) (by decide +kernel), List.mem_of_getElem? (i := 266) (by decide +kernel), List.mem_of_getElem? (i := 41) (by decide +kernel), by decide, by decide +kernel, by decide +kernel, by decide +kernel⟩
theorem lkv_X11_387 : LKv RX11 387 M_X11_isCourseSound 1 := ⟨lk_X11_387, List.mem_of_getElem? (i := 265) (by decide +kernel), List.mem_of_getElem? (i := 0) (by decide +kernel)⟩
theorem lk_X11_314 : LK RX11 314 M_X11_takersOf 1 := ⟨rfl, List.mem_of_getElem? (i := 267) (by decide +kernel), List.mem_of_getElem? (i := 270) (by decide +kernel), List.mem_of_getElem? (i := 41) (by decide +kernel), by decide, by decide +kernel, by decide +kernel, by decide +kernel⟩
theorem lkv_X11_314 : LKv RX11 314 M_X11_takersOf 1 := ⟨lk_X11_314, List.mem_of_getElem? (i := 269) (by decide +kernel), List.mem_of_getElem? (i := 1) (by decide +kernel)⟩
theorem lk_X11_437 : LK RX11 437 M_X11_canTakeSeat 2 := ⟨rfl, List.mem_of_getElem? (i := 271) (by decide +kernel), List.mem_of_getElem? (i := 274) (by decide +kernel), List.mem_of_getElem? (i := 41) (by decide +kernel), by decide, by decide +kernel, by decide +kernel, by decide +kernel⟩
theorem lkv_X11_437 : LKv RX11 437 M_X11_canTakeSeat 2 := ⟨lk_X11_437, List.mem_of_getElem? (i := 273) (by decide +kernel), List.mem_of_getElem? (i := 2) (by decide +kernel)⟩
theorem lk_X11_257 : LK RX11 257 M_X11_freeFor 2 := ⟨rfl, List.mem_of_getElem? (i := 275) (by decide +kernel), List.mem_of_getElem? (i := 278) (by decide +kernel), List.mem_of_getElem? (i := 41) (by decide +kernel), by decide, by decide +kernel, by decide +kernel, by decide +kernel⟩
theorem lkv_X11_257 : LKv RX11 257 M_X11_freeFor 2 := ⟨lk_X11_257, List.mem_of_getElem? (i := 277) (by decide +kernel), List.mem_of_getElem? (i := 3) (by decide +kernel)⟩
theorem lk_X11_431 : LK RX11 431 M_X11_takersOfMajor 2 := ⟨rfl, List.mem_of_getElem? (i := 279) (by decide +kernel), List.mem_of_getElem? (i := 282) (by decide +kernel), List.mem_of_getElem? (i := 41) (by decide +kernel), by decide, by decide +kernel, by decide +kernel, by decide +kernel⟩
theorem lkv_X11_431 : LKv RX11 431 M_X11_takersOfMajor 2 := ⟨lk_X11_431, List.mem_of_getElem? (i := 281) (by decide +kernel), List.mem_of_getElem? (i := 4) (by decide +kernel)⟩
theorem lk_X11_153 : LK RX11 153 M_J9_max_7cf53 2 := ⟨rfl, List.mem_of_getElem? (i := 283) (by decide +kernel), List.mem_of_getElem? (i := 285) (by decide +kernel), List.mem_of_getElem? (i := 57) (by decide +kernel), by decide, by decide +kernel, by decide +kernel, by decide +kernel⟩
theorem lks_X11_153 : LKs RX11 153 M_J9_max_7cf53 2 := ⟨lk_X11_153, List.mem_of_getElem? (i := 284) (by decide +kernel)⟩
theorem lk_X11_261 : LK RX11 261 M_X11_canBear 2 := ⟨rfl, List.mem_of_getElem? (i := 286) (by decide +kernel), List.mem_of_getElem? (i := 289) (by decide +kernel), List.mem_of_getElem? (i := 41) (by decide +kernel), by decide, by decide +kernel, by decide +kernel, by decide +kernel⟩
theorem lkv_X11_261 : LKv RX11 261 M_X11_canBear 2 := ⟨lk_X11_261, List.mem_of_getElem? (i := 288) (by decide +kernel), List.mem_of_getElem? (i := 5) (by decide +kernel)⟩
theorem lk_X11_266 : LK RX11 266 M_X11_loadOn 1 := ⟨rfl, List.mem_of_getElem? (i := 290) (by decide +kernel), List.mem_of_getElem? (i := 293) (by decide +kernel), List.mem_of_getElem? (i := 41) (by decide +kernel), by decide, by decide +kernel, by decide +kernel, by decide +kernel⟩
theorem lkv_X11_266 : LKv RX11 266 M_X11_loadOn 1 := ⟨lk_X11_266, List.mem_of_getElem? (i := 292) (by decide +kernel), List.mem_of_getElem? (i := 6) (by decide +kernel)⟩
theorem lk_X11_250 : LK RX11 250 M_X11_requisiteHolds 2 := ⟨rfl, List.mem_of_getElem? (i := 294) (by decide +kernel), List.mem_of_getElem? (i := 297) (by decide +kernel), List.mem_of_getElem? (i := 41) (by decide +kernel), by decide, by decide +kernel, by decide +kernel, by decide +kernel⟩
theorem lkv_X11_250 : LKv RX11 250 M_X11_requisiteHolds 2 := ⟨lk_X11_250, List.mem_of_getElem? (i := 296) (by decide +kernel), List.mem_of_getElem? (i := 7) (by decide +kernel)⟩
theorem lk_X11_167 : LK RX11 167 M_X11_truthsFor 1 := ⟨rfl, List.mem_of_getElem? (i := 298) (by decide +kernel), List.mem_of_getElem? (i := 301) (by decide +kernel), List.mem_of_getElem? (i := 41) (by decide +kernel), by decide, by decide +kernel, by decide +kernel, by decide +kernel⟩
theorem lkv_X11_167 : LKv RX11 167 M_X11_truthsFor 1 := ⟨lk_X11_167, List.mem_of_getElem? (i := 300) (by decide +kernel), List.mem_of_getElem? (i := 8) (by decide +kernel)⟩
theorem lk_X11_305 : LK RX11 305 M_X11_creditsEarned 1 := ⟨rfl, List.mem_of_getElem? (i := 302) (by decide +kernel), List.mem_of_getElem? (i := 305) (by decide +kernel), List.mem_of_getElem? (i := 41) (by decide +kernel), by decide, by decide +kernel, by decide +kernel, by decide +kernel⟩
theorem lkv_X11_305 : LKv RX11 305 M_X11_creditsEarned 1 := ⟨lk_X11_305, List.mem_of_getElem? (i := 304) (by decide +kernel), List.mem_of_getElem? (i := 9) (by decide +kernel)⟩
theorem lk_X11_283 : LK RX11 283 M_X8_hasPassed 1 := ⟨rfl, List.mem_of_getElem? (i := 306) (by decide +kernel), List.mem_of_getElem? (i := 309) (by decide +kernel), List.mem_of_getElem? (i := 45) (by decide +kernel), by decide, by decide +kernel, by decide +kernel, by decide +kernel⟩
theorem lkv_X11_283 : LKv RX11 283 M_X8_hasPassed 1 := ⟨lk_X11_283, List.mem_of_getElem? (i := 307) (by decide +kernel), List.mem_of_getElem? (i := 308) (by decide +kernel)⟩
theorem lk_X9_19 : LK RX9 19 M_X8_hasPassed 1 := ⟨rfl, List.mem_of_getElem? (i := 333) (by decide +kernel), List.mem_of_getElem? (i := 309) (by decide +kernel), List.mem_of_getElem? (i := 45) (by decide +kernel), by decide, by decide +kernel, by decide +kernel, by decide +kernel⟩
theorem lkv_X9_19 : LKv RX9 19 M_X8_hasPassed 1 := ⟨lk_X9_19, List.mem_of_getElem? (i := 307) (by decide +kernel), List.mem_of_getElem? (i := 308) (by decide +kernel)⟩
theorem lk_X11_171 : LK RX11 171 M_X11_isMet 2 := ⟨rfl, List.mem_of_getElem? (i := 334) (by decide +kernel), List.mem_of_getElem? (i := 319) (by decide +kernel), List.mem_of_getElem? (i := 41) (by decide +kernel), by decide, by decide +kernel, by decide +kernel, by decide +kernel⟩
theorem lks_X11_171 : LKs RX11 171 M_X11_isMet 2 := ⟨lk_X11_171, List.mem_of_getElem? (i := 318) (by decide +kernel)⟩
theorem lk_X11_391 : LK RX11 391 M_X11_auditsAgree 1 := ⟨rfl, List.mem_of_getElem? (i := 335) (by decide +kernel), List.mem_of_getElem? (i := 338) (by decide +kernel), List.mem_of_getElem? (i := 41) (by decide +kernel), by decide, by decide +kernel, by decide +kernel, by decide +kernel⟩
theorem lkv_X11_391 : LKv RX11 391 M_X11_auditsAgree 1 := ⟨lk_X11_391, List.mem_of_getElem? (i := 337) (by decide +kernel), List.mem_of_getElem? (i := 10) (by decide +kernel)⟩
theorem lk_X11_363 : LK RX11 363 M_X0_open 3 := ⟨rfl, List.mem_of_getElem? (i := 339) (by decide +kernel), List.mem_of_getElem? (i := 342) (by decide +kernel), List.mem_of_getElem? (i := 47) (by decide +kernel), by decide, by decide +kernel, by decide +kernel, by decide +kernel⟩
theorem lkv_X11_363 : LKv RX11 363 M_X0_open 3 := ⟨lk_X11_363, List.mem_of_getElem? (i := 340) (by decide +kernel), List.mem_of_getElem? (i := 341) (by decide +kernel)⟩
theorem lk_X0_44 : LK RX0 44 M_J7_fill_53178 2 := ⟨rfl, List.mem_of_getElem? (i := 343) (by decide +kernel), List.mem_of_getElem? (i := 117) (by decide +kernel), List.mem_of_getElem? (i := 46) (by decide +kernel), by decide, by decide +kernel, by decide +kernel, by decide +kernel⟩
theorem lks_X0_44 : LKs RX0 44 M_J7_fill_53178 2 := ⟨lk_X0_44, List.mem_of_getElem? (i := 116) (by decide +kernel)⟩
theorem lk_X0_50 : LK RX0 50 M_Jx4a65c_size_8abf5 0 := ⟨rfl, List.mem_of_getElem? (i := 344) (by decide +kernel), List.mem_of_getElem? (i := 247) (by decide +kernel), List.mem_of_getElem? (i := 44) (by decide +kernel), by decide, by decide +kernel, by decide +kernel, by decide +kernel⟩
theorem lkv_X0_50 : LKv RX0 50 M_Jx4a65c_size_8abf5 0 := ⟨lk_X0_50, List.mem_of_getElem? (i := 245) (by decide +kernel), List.mem_of_getElem? (i := 246) (by decide +kernel)⟩
theorem lk_X0_56 : LK RX0 56 M_Jx4a65c_get_915e3 1 := ⟨rfl, List.mem_of_getElem? (i := 345) (by decide +kernel), List.mem_of_getElem? (i := 251) (by decide +kernel), List.mem_of_getElem? (i := 44) (by decide +kernel), by decide, by decide +kernel, by decide +kernel, by decide +kernel⟩
theorem lkv_X0_56 : LKv RX0 56 M_Jx4a65c_get_915e3 1 := ⟨lk_X0_56, List.mem_of_getElem? (i := 249) (by decide +kernel), List.mem_of_getElem? (i := 250) (by decide +kernel)⟩
theorem lk_X0_71 : LK RX0 71 M_X0_noteFits 3 := ⟨rfl, List.mem_of_getElem? (i := 347) (by decide +kernel), List.mem_of_getElem? (i := 350) (by decide +kernel), List.mem_of_getElem? (i := 47) (by decide +kernel), by decide, by decide +kernel, by decide +kernel, by decide +kernel⟩
theorem lkv_X0_71 : LKv RX0 71 M_X0_noteFits 3 := ⟨lk_X0_71, List.mem_of_getElem? (i := 349) (by decide +kernel), List.mem_of_getElem? (i := 11) (by decide +kernel)⟩
theorem lk_X11_370 : LK RX11 370 M_X0_tryAll 0 := ⟨rfl, List.mem_of_getElem? (i := 351) (by decide +kernel), List.mem_of_getElem? (i := 354) (by decide +kernel), List.mem_of_getElem? (i := 47) (by decide +kernel), by decide, by decide +kernel, by decide +kernel, by decide +kernel⟩
theorem lkv_X11_370 : LKv RX11 370 M_X0_tryAll 0 := ⟨lk_X11_370, List.mem_of_getElem? (i := 352) (by decide +kernel), List.mem_of_getElem? (i := 353) (by decide +kernel)⟩
theorem lk_X0_116 : LK RX0 116 M_X0_trials 0 := ⟨rfl, List.mem_of_getElem? (i := 355) (by decide +kernel), List.mem_of_getElem? (i := 358) (by decide +kernel), List.mem_of_getElem? (i := 47) (by decide +kernel), by decide, by decide +kernel, by decide +kernel, by decide +kernel⟩
theorem lkv_X0_116 : LKv RX0 116 M_X0_trials 0 := ⟨lk_X0_116, List.mem_of_getElem? (i := 357) (by decide +kernel), List.mem_of_getElem? (i := 12) (by decide +kernel)⟩
theorem lk_X0_119 : LK RX0 119 M_X0_tryCourse 1 := ⟨rfl, List.mem_of_getElem? (i := 359) (by decide +kernel), List.mem_of_getElem? (i := 362) (by decide +kernel), List.mem_of_getElem? (i := 47) (by decide +kernel), by decide, by decide +kernel, by decide +kernel, by decide +kernel⟩
theorem lkv_X0_119 : LKv RX0 119 M_X0_tryCourse 1 := ⟨lk_X0_119, List.mem_of_getElem? (i := 361) (by decide +kernel), List.mem_of_getElem? (i := 13) (by decide +kernel)⟩
theorem lk_X0_109 : LK RX0 109 M_X0_isFit 2 := ⟨rfl, List.mem_of_getElem? (i := 363) (by decide +kernel), List.mem_of_getElem? (i := 366) (by decide +kernel), List.mem_of_getElem? (i := 47) (by decide +kernel), by decide, by decide +kernel, by decide +kernel, by decide +kernel⟩
theorem lkv_X0_109 : LKv RX0 109 M_X0_isFit 2 := ⟨lk_X0_109, List.mem_of_getElem? (i := 365) (by decide +kernel), List.mem_of_getElem? (i := 14) (by decide +kernel)⟩
theorem lk_X0_125 : LK RX0 125 M_X0_countIn 2 := ⟨rfl, List.mem_of_getElem? (i := 367) (by decide +kernel), List.mem_of_getElem? (i := 369) (by decide +kernel), List.mem_of_getElem? (i := 47) (by decide +kernel), by decide, by decide +kernel, by decide +kernel, by decide +kernel⟩
theorem lks_X0_125 : LKs RX0 125 M_X0_countIn 2 := ⟨lk_X0_125, List.mem_of_getElem? (i := 368) (by decide +kernel)⟩
theorem lk_X0_122 : LK RX0 122 M_X0_mostTried 1 := ⟨rfl, List.mem_of_getElem? (i := 370) (by decide +kernel), List.mem_of_getElem? (i := 373) (by decide +kernel), List.mem_of_getElem? (i := 47) (by decide +kernel), by decide, by decide +kernel, by decide +kernel, by decide +kernel⟩
theorem lkv_X0_122 : LKv RX0 122 M_X0_mostTried 1 := ⟨lk_X0_122, List.mem_of_getElem? (i := 372) (by decide +kernel), List.mem_of_getElem? (i := 15) (by decide +kernel)⟩
theorem lk_X0_128 : LK RX0 128 M_X0_sumOf 1 := ⟨rfl, List.mem_of_getElem? (i := 374) (by decide +kernel), List.mem_of_getElem? (i := 377) (by decide +kernel), List.mem_of_getElem? (i := 47) (by decide +kernel), by decide, by decide +kernel, by decide +kernel, by decide +kernel⟩
theorem lkv_X0_128 : LKv RX0 128 M_X0_sumOf 1 := ⟨lk_X0_128, List.mem_of_getElem? (i := 376) (by decide +kernel), List.mem_of_getElem? (i := 16) (by decide +kernel)⟩
theorem lk_X0_131 : LK RX0 131 M_J9_max_7cf53 2 := ⟨rfl, List.mem_of_getElem? (i := 378) (by decide +kernel), List.mem_of_getElem? (i := 285) (by decide +kernel), List.mem_of_getElem? (i := 57) (by decide +kernel), by decide, by decide +kernel, by decide +kernel, by decide +kernel⟩
theorem lks_X0_131 : LKs RX0 131 M_J9_max_7cf53 2 := ⟨lk_X0_131, List.mem_of_getElem? (i := 284) (by decide +kernel)⟩
theorem lk_X11_367 : LK RX11 367 M_X0_giveAll 0 := ⟨rfl, List.mem_of_getElem? (i := 379) (by decide +kernel), List.mem_of_getElem? (i := 382) (by decide +kernel), List.mem_of_getElem? (i := 47) (by decide +kernel), by decide, by decide +kernel, by decide +kernel, by decide +kernel⟩
theorem lkv_X11_367 : LKv RX11 367 M_X0_giveAll 0 := ⟨lk_X11_367, List.mem_of_getElem? (i := 380) (by decide +kernel), List.mem_of_getElem? (i := 381) (by decide +kernel)⟩
theorem lk_X0_93 : LK RX0 93 M_X0_giveFrom 1 := ⟨rfl, List.mem_of_getElem? (i := 386) (by decide +kernel), List.mem_of_getElem? (i := 389) (by decide +kernel), List.mem_of_getElem? (i := 47) (by decide +kernel), by decide, by decide +kernel, by decide +kernel, by decide +kernel⟩
theorem lkv_X0_93 : LKv RX0 93 M_X0_giveFrom 1 := ⟨lk_X0_93, List.mem_of_getElem? (i := 388) (by decide +kernel), List.mem_of_getElem? (i := 17) (by decide +kernel)⟩
theorem lk_X0_97 : LK RX0 97 M_X0_give 1 := ⟨rfl, List.mem_of_getElem? (i := 390) (by decide +kernel), List.mem_of_getElem? (i := 393) (by decide +kernel), List.mem_of_getElem? (i := 47) (by decide +kernel), by decide, by decide +kernel, by decide +kernel, by decide +kernel⟩
theorem lkv_X0_97 : LKv RX0 97 M_X0_give 1 := ⟨lk_X0_97, List.mem_of_getElem? (i := 392) (by decide +kernel), List.mem_of_getElem? (i := 18) (by decide +kernel)⟩
theorem lk_X0_101 : LK RX0 101 M_X0_findSlotsFor 2 := ⟨rfl, List.mem_of_getElem? (i := 394) (by decide +kernel), List.mem_of_getElem? (i := 397) (by decide +kernel), List.mem_of_getElem? (i := 47) (by decide +kernel), by decide, by decide +kernel, by decide +kernel, by decide +kernel⟩
theorem lkv_X0_101 : LKv RX0 101 M_X0_findSlotsFor 2 := ⟨lk_X0_101, List.mem_of_getElem? (i := 396) (by decide +kernel), List.mem_of_getElem? (i := 19) (by decide +kernel)⟩
theorem lk_X0_105 : LK RX0 105 M_X0_handOn 1 := ⟨rfl, List.mem_of_getElem? (i := 398) (by decide +kernel), List.mem_of_getElem? (i := 401) (by decide +kernel), List.mem_of_getElem? (i := 47) (by decide +kernel), by decide, by decide +kernel, by decide +kernel, by decide +kernel⟩
theorem lkv_X0_105 : LKv RX0 105 M_X0_handOn 1 := ⟨lk_X0_105, List.mem_of_getElem? (i := 400) (by decide +kernel), List.mem_of_getElem? (i := 20) (by decide +kernel)⟩
theorem lk_X11_373 : LK RX11 373 M_X0_shortRules 0 := ⟨rfl, List.mem_of_getElem? (i := 402) (by decide +kernel), List.mem_of_getElem? (i := 405) (by decide +kernel), List.mem_of_getElem? (i := 47) (by decide +kernel), by decide, by decide +kernel, by decide +kernel, by decide +kernel⟩
theorem lkv_X11_373 : LKv RX11 373 M_X0_shortRules 0 := ⟨lk_X11_373, List.mem_of_getElem? (i := 403) (by decide +kernel), List.mem_of_getElem? (i := 404) (by decide +kernel)⟩
theorem lk_X0_113 : LK RX0 113 M_X0_ruleBits 1 := ⟨rfl, List.mem_of_getElem? (i := 406) (by decide +kernel), List.mem_of_getElem? (i := 409) (by decide +kernel), List.mem_of_getElem? (i := 47) (by decide +kernel), by decide, by decide +kernel, by decide +kernel, by decide +kernel⟩
theorem lkv_X0_113 : LKv RX0 113 M_X0_ruleBits 1 := ⟨lk_X0_113, List.mem_of_getElem? (i := 408) (by decide +kernel), List.mem_of_getElem? (i := 21) (by decide +kernel)⟩
theorem lk_X11_376 : LK RX11 376 M_X0_shortRulesByTrial 1 := ⟨rfl, List.mem_of_getElem? (i := 410) (by decide +kernel), List.mem_of_getElem? (i := 413) (by decide +kernel), List.mem_of_getElem? (i := 47) (by decide +kernel), by decide, by decide +kernel, by decide +kernel, by decide +kernel⟩
theorem lkv_X11_376 : LKv RX11 376 M_X0_shortRulesByTrial 1 := ⟨lk_X11_376, List.mem_of_getElem? (i := 411) (by decide +kernel), List.mem_of_getElem? (i := 412) (by decide +kernel)⟩
theorem lk_L_44 : LK RL 44 M_L_cell 2 := ⟨rfl, List.mem_of_getElem? (i := 414) (by decide +kernel), List.mem_of_getElem? (i := 416) (by decide +kernel), List.mem_of_getElem? (i := 40) (by decide +kernel), by decide, by decide +kernel, by decide +kernel, by decide +kernel⟩
theorem lks_L_44 : LKs RL 44 M_L_cell 2 := ⟨lk_L_44, List.mem_of_getElem? (i := 415) (by decide +kernel)⟩
theorem lk_L_50 : LK RL 50 M_L_low 2 := ⟨rfl, List.mem_of_getElem? (i := 418) (by decide +kernel), List.mem_of_getElem? (i := 420) (by decide +kernel), List.mem_of_getElem? (i := 40) (by decide +kernel), by decide, by decide +kernel, by decide +kernel, by decide +kernel⟩
theorem lks_L_50 : LKs RL 50 M_L_low 2 := ⟨lk_L_50, List.mem_of_getElem? (i := 419) (by decide +kernel)⟩
theorem lk_L_207 : LK RL 207 M_L_office 2 := ⟨rfl, List.mem_of_getElem? (i := 422) (by decide +kernel), List.mem_of_getElem? (i := 424) (by decide +kernel), List.mem_of_getElem? (i := 40) (by decide +kernel), by decide, by decide +kernel, by decide +kernel, by decide +kernel⟩
theorem lks_L_207 : LKs RL 207 M_L_office 2 := ⟨lk_L_207, List.mem_of_getElem? (i := 423) (by decide +kernel)⟩
theorem lk_L_56 : LK RL 56 M_X11_addCourse 2 := ⟨rfl, List.mem_of_getElem? (i := 468) (by decide +kernel), List.mem_of_getElem? (i := 471) (by decide +kernel), List.mem_of_getElem? (i := 41) (by decide +kernel), by decide, by decide +kernel, by decide +kernel, by decide +kernel⟩
theorem lkv_L_56 : LKv RL 56 M_X11_addCourse 2 := ⟨lk_L_56, List.mem_of_getElem? (i := 469) (by decide +kernel), List.mem_of_getElem? (i := 470) (by decide +kernel)⟩
theorem lk_X11_59 : LK RX11 59 M_X11_isWithin 3 := ⟨rfl, List.mem_of_getElem? (i := 472) (by decide +kernel), List.mem_of_getElem? (i := 474) (by decide +kernel), List.mem_of_getElem? (i := 41) (by decide +kernel), by decide, by decide +kernel, by decide +kernel, by decide +kernel⟩
theorem lks_X11_59 : LKs RX11 59 M_X11_isWithin 3 := ⟨lk_X11_59, List.mem_of_getElem? (i := 473) (by decide +kernel)⟩
theorem lk_X11_81 : LK RX11 81 M_X2_init 3 := ⟨rfl, List.mem_of_getElem? (i := 564) (by decide +kernel), List.mem_of_getElem? (i := 566) (by decide +kernel), List.mem_of_getElem? (i := 55) (by decide +kernel), by decide, by decide +kernel, by decide +kernel, by decide +kernel⟩
theorem lki_X11_81 : LKi RX11 81 M_X2_init 3 := ⟨lk_X11_81, List.mem_of_getElem? (i := 565) (by decide +kernel), rfl, rfl⟩
theorem lk_X2_17 : LK RX2 17 M_Jx4a65c_init_da8c8 0 := ⟨rfl, List.mem_of_getElem? (i := 569) (by decide +kernel), List.mem_of_getElem? (i := 85) (by decide +kernel), List.mem_of_getElem? (i := 44) (by decide +kernel), by decide, by decide +kernel, by decide +kernel, by decide +kernel⟩
theorem lki_X2_17 : LKi RX2 17 M_Jx4a65c_init_da8c8 0 := ⟨lk_X2_17, List.mem_of_getElem? (i := 84) (by decide +kernel), rfl, rfl⟩
theorem lk_X11_84 : LK RX11 84 M_Jx4a65c_add_9ea2d 1 := ⟨rfl, List.mem_of_getElem? (i := 595) (by decide +kernel), List.mem_of_getElem? (i := 598) (by decide +kernel), List.mem_of_getElem? (i := 44) (by decide +kernel), by decide, by decide +kernel, by decide +kernel, by decide +kernel⟩
theorem lkv_X11_84 : LKv RX11 84 M_Jx4a65c_add_9ea2d 1 := ⟨lk_X11_84, List.mem_of_getElem? (i := 596) (by decide +kernel), List.mem_of_getElem? (i := 597) (by decide +kernel)⟩
theorem lk_Jx4a65c_131 : LK RJx4a65c 131 M_Jx4a65c_add_72be8 3 := ⟨rfl, List.mem_of_getElem? (i := 599) (by decide +kernel), List.mem_of_getElem? (i := 602) (by decide +kernel), List.mem_of_getElem? (i := 44) (by decide +kernel), by decide, by decide +kernel, by decide +kernel, by decide +kernel⟩
theorem lkv_Jx4a65c_131 : LKv RJx4a65c 131 M_Jx4a65c_add_72be8 3 := ⟨lk_Jx4a65c_131, List.mem_of_getElem? (i := 601) (by decide +kernel), List.mem_of_getElem? (i := 23) (by decide +kernel)⟩
theorem lk_Jx4a65c_129 : LK RJx4a65c 129 M_Jx4a65c_grow_d5877 0 := ⟨rfl, List.mem_of_getElem? (i := 603) (by decide +kernel), List.mem_of_getElem? (i := 606) (by decide +kernel), List.mem_of_getElem? (i := 44) (by decide +kernel), by decide, by decide +kernel, by decide +kernel, by decide +kernel⟩
theorem lkv_Jx4a65c_129 : LKv RJx4a65c 129 M_Jx4a65c_grow_d5877 0 := ⟨lk_Jx4a65c_129, List.mem_of_getElem? (i := 605) (by decide +kernel), List.mem_of_getElem? (i := 24) (by decide +kernel)⟩
theorem lk_Jx4a65c_69 : LK RJx4a65c 69 M_Jx4a65c_grow_92f84 1 := ⟨rfl, List.mem_of_getElem? (i := 607) (by decide +kernel), List.mem_of_getElem? (i := 610) (by decide +kernel), List.mem_of_getElem? (i := 44) (by decide +kernel), by decide, by decide +kernel, by decide +kernel, by decide +kernel⟩
theorem lkv_Jx4a65c_69 : LKv RJx4a65c 69 M_Jx4a65c_grow_92f84 1 := ⟨lk_Jx4a65c_69, List.mem_of_getElem? (i := 609) (by decide +kernel), List.mem_of_getElem? (i := 25) (by decide +kernel)⟩
theorem lk_Jx4a65c_73 : LK RJx4a65c 73 M_J8_newLength_cabcc 3 := ⟨rfl, List.mem_of_getElem? (i := 611) (by decide +kernel), List.mem_of_getElem? (i := 613) (by decide +kernel), List.mem_of_getElem? (i := 56) (by decide +kernel), by decide, by decide +kernel, by decide +kernel, by decide +kernel⟩
theorem lks_Jx4a65c_73 : LKs RJx4a65c 73 M_J8_newLength_cabcc 3 := ⟨lk_Jx4a65c_73, List.mem_of_getElem? (i := 612) (by decide +kernel)⟩
theorem lk_J8_194 : LK RJ8 194 M_J9_max_7cf53 2 := ⟨rfl, List.mem_of_getElem? (i := 614) (by decide +kernel), List.mem_of_getElem? (i := 285) (by decide +kernel), List.mem_of_getElem? (i := 57) (by decide +kernel), by decide, by decide +kernel, by decide +kernel, by decide +kernel⟩
theorem lks_J8_194 : LKs RJ8 194 M_J9_max_7cf53 2 := ⟨lk_J8_194, List.mem_of_getElem? (i := 284) (by decide +kernel)⟩
theorem lk_J8_201 : LK RJ8 201 M_J8_hugeLength_7cf53 2 := ⟨rfl, List.mem_of_getElem? (i := 616) (by decide +kernel), List.mem_of_getElem? (i := 618) (by decide +kernel), List.mem_of_getElem? (i := 56) (by decide +kernel), by decide, by decide +kernel, by decide +kernel, by decide +kernel⟩
theorem lks_J8_201 : LKs RJ8 201 M_J8_hugeLength_7cf53 2 := ⟨lk_J8_201, List.mem_of_getElem? (i := 617) (by decide +kernel)⟩
theorem lk_Jx4a65c_66 : LK RJx4a65c 66 M_J7_copyOf_1904c 2 := ⟨rfl, List.mem_of_getElem? (i := 619) (by decide +kernel), List.mem_of_getElem? (i := 621) (by decide +kernel), List.mem_of_getElem? (i := 46) (by decide +kernel), by decide, by decide +kernel, by decide +kernel, by decide +kernel⟩
theorem lks_Jx4a65c_66 : LKs RJx4a65c 66 M_J7_copyOf_1904c 2 := ⟨lk_Jx4a65c_66, List.mem_of_getElem? (i := 620) (by decide +kernel)⟩
theorem lk_J7_300 : LK RJ7 300 M_J7_copyOf_6403c 3 := ⟨rfl, List.mem_of_getElem? (i := 645) (by decide +kernel), List.mem_of_getElem? (i := 647) (by decide +kernel), List.mem_of_getElem? (i := 46) (by decide +kernel), by decide, by decide +kernel, by decide +kernel, by decide +kernel⟩
theorem lks_J7_300 : LKs RJ7 300 M_J7_copyOf_6403c 3 := ⟨lk_J7_300, List.mem_of_getElem? (i := 646) (by decide +kernel)⟩
theorem lk_J7_304 : LK RJ7 304 M_J9_min_7cf53 2 := ⟨rfl, List.mem_of_getElem? (i := 651) (by decide +kernel), List.mem_of_getElem? (i := 653) (by decide +kernel), List.mem_of_getElem? (i := 57) (by decide +kernel), by decide, by decide +kernel, by decide +kernel, by decide +kernel⟩
theorem lks_J7_304 : LKs RJ7 304 M_J9_min_7cf53 2 := ⟨lk_J7_304, List.mem_of_getElem? (i := 652) (by decide +kernel)⟩
theorem lk_Jx4a65c_79 : LK RJx4a65c 79 M_J9_max_7cf53 2 := ⟨rfl, List.mem_of_getElem? (i := 655) (by decide +kernel), List.mem_of_getElem? (i := 285) (by decide +kernel), List.mem_of_getElem? (i := 57) (by decide +kernel), by decide, by decide +kernel, by decide +kernel, by decide +kernel⟩
theorem lks_Jx4a65c_79 : LKs RJx4a65c 79 M_J9_max_7cf53 2 := ⟨lk_Jx4a65c_79, List.mem_of_getElem? (i := 284) (by decide +kernel)⟩
theorem lk_L_62 : LK RL 62 M_X11_addStudent 1 := ⟨rfl, List.mem_of_getElem? (i := 657) (by decide +kernel), List.mem_of_getElem? (i := 660) (by decide +kernel), List.mem_of_getElem? (i := 41) (by decide +kernel), by decide, by decide +kernel, by decide +kernel, by decide +kernel⟩
theorem lkv_L_62 : LKv RL 62 M_X11_addStudent 1 := ⟨lk_L_62, List.mem_of_getElem? (i := 658) (by decide +kernel), List.mem_of_getElem? (i := 659) (by decide +kernel)⟩
theorem lk_X11_88 : LK RX11 88 M_X11_checkMajor 1 := ⟨rfl, List.mem_of_getElem? (i := 661) (by decide +kernel), List.mem_of_getElem? (i := 663) (by decide +kernel), List.mem_of_getElem? (i := 41) (by decide +kernel), by decide, by decide +kernel, by decide +kernel, by decide +kernel⟩
theorem lks_X11_88 : LKs RX11 88 M_X11_checkMajor 1 := ⟨lk_X11_88, List.mem_of_getElem? (i := 662) (by decide +kernel)⟩
theorem lk_L_72 : LK RL 72 M_J9_min_7cf53 2 := ⟨rfl, List.mem_of_getElem? (i := 666) (by decide +kernel), List.mem_of_getElem? (i := 653) (by decide +kernel), List.mem_of_getElem? (i := 57) (by decide +kernel), by decide, by decide +kernel, by decide +kernel, by decide +kernel⟩
theorem lks_L_72 : LKs RL 72 M_J9_min_7cf53 2 := ⟨lk_L_72, List.mem_of_getElem? (i := 652) (by decide +kernel)⟩
theorem lk_L_83 : LK RL 83 M_L_adds 3 := ⟨rfl, List.mem_of_getElem? (i := 667) (by decide +kernel), List.mem_of_getElem? (i := 669) (by decide +kernel), List.mem_of_getElem? (i := 40) (by decide +kernel), by decide, by decide +kernel, by decide +kernel, by decide +kernel⟩
theorem lks_L_83 : LKs RL 83 M_L_adds 3 := ⟨lk_L_83, List.mem_of_getElem? (i := 668) (by decide +kernel)⟩
theorem lk_L_87 : LK RL 87 M_X11_markFormula 2 := ⟨rfl, List.mem_of_getElem? (i := 670) (by decide +kernel), List.mem_of_getElem? (i := 673) (by decide +kernel), List.mem_of_getElem? (i := 41) (by decide +kernel), by decide, by decide +kernel, by decide +kernel, by decide +kernel⟩
theorem lkv_L_87 : LKv RL 87 M_X11_markFormula 2 := ⟨lk_L_87, List.mem_of_getElem? (i := 671) (by decide +kernel), List.mem_of_getElem? (i := 672) (by decide +kernel)⟩
theorem lk_X11_104 : LK RX11 104 M_X11_courseAt 1 := ⟨rfl, List.mem_of_getElem? (i := 674) (by decide +kernel), List.mem_of_getElem? (i := 677) (by decide +kernel), List.mem_of_getElem? (i := 41) (by decide +kernel), by decide, by decide +kernel, by decide +kernel, by decide +kernel⟩
theorem lkv_X11_104 : LKv RX11 104 M_X11_courseAt 1 := ⟨lk_X11_104, List.mem_of_getElem? (i := 676) (by decide +kernel), List.mem_of_getElem? (i := 26) (by decide +kernel)⟩
theorem lk_X11_121 : LK RX11 121 M_X11_checkMark 1 := ⟨rfl, List.mem_of_getElem? (i := 694) (by decide +kernel), List.mem_of_getElem? (i := 696) (by decide +kernel), List.mem_of_getElem? (i := 41) (by decide +kernel), by decide, by decide +kernel, by decide +kernel, by decide +kernel⟩
theorem lks_X11_121 : LKs RX11 121 M_X11_checkMark 1 := ⟨lk_X11_121, List.mem_of_getElem? (i := 695) (by decide +kernel)⟩
theorem lk_X11_124 : LK RX11 124 M_X11_checkFormulaFits 1 := ⟨rfl, List.mem_of_getElem? (i := 698) (by decide +kernel), List.mem_of_getElem? (i := 701) (by decide +kernel), List.mem_of_getElem? (i := 41) (by decide +kernel), by decide, by decide +kernel, by decide +kernel, by decide +kernel⟩
theorem lkv_X11_124 : LKv RX11 124 M_X11_checkFormulaFits 1 := ⟨lk_X11_124, List.mem_of_getElem? (i := 700) (by decide +kernel), List.mem_of_getElem? (i := 27) (by decide +kernel)⟩
theorem lk_X11_129 : LK RX11 129 M_X5_init 2 := ⟨rfl, List.mem_of_getElem? (i := 705) (by decide +kernel), List.mem_of_getElem? (i := 707) (by decide +kernel), List.mem_of_getElem? (i := 63) (by decide +kernel), by decide, by decide +kernel, by decide +kernel, by decide +kernel⟩
theorem lki_X11_129 : LKi RX11 129 M_X5_init 2 := ⟨lk_X11_129, List.mem_of_getElem? (i := 706) (by decide +kernel), rfl, rfl⟩
theorem lk_X5_1 : LK RX5 1 M_X4_init 1 := ⟨rfl, List.mem_of_getElem? (i := 708) (by decide +kernel), List.mem_of_getElem? (i := 710) (by decide +kernel), List.mem_of_getElem? (i := 62) (by decide +kernel), by decide, by decide +kernel, by decide +kernel, by decide +kernel⟩
theorem lki_X5_1 : LKi RX5 1 M_X4_init 1 := ⟨lk_X5_1, List.mem_of_getElem? (i := 709) (by decide +kernel), rfl, rfl⟩
theorem lk_X11_132 : LK RX11 132 M_X11_keep 1 := ⟨rfl, List.mem_of_getElem? (i := 723) (by decide +kernel), List.mem_of_getElem? (i := 726) (by decide +kernel), List.mem_of_getElem? (i := 41) (by decide +kernel), by decide, by decide +kernel, by decide +kernel, by decide +kernel⟩
theorem lkv_X11_132 : LKv RX11 132 M_X11_keep 1 := ⟨lk_X11_132, List.mem_of_getElem? (i := 725) (by decide +kernel), List.mem_of_getElem? (i := 28) (by decide +kernel)⟩
theorem lk_L_90 : LK RL 90 M_X11_togetherFormula 1 := ⟨rfl, List.mem_of_getElem? (i := 727) (by decide +kernel), List.mem_of_getElem? (i := 730) (by decide +kernel), List.mem_of_getElem? (i := 41) (by decide +kernel), by decide, by decide +kernel, by decide +kernel, by decide +kernel⟩
theorem lkv_L_90 : LKv RL 90 M_X11_togetherFormula 1 := ⟨lk_L_90, List.mem_of_getElem? (i := 728) (by decide +kernel), List.mem_of_getElem? (i := 729) (by decide +kernel)⟩
theorem lk_X11_138 : LK RX11 138 M_X9_init 1 := ⟨rfl, List.mem_of_getElem? (i := 733) (by decide +kernel), List.mem_of_getElem? (i := 735) (by decide +kernel), List.mem_of_getElem? (i := 64) (by decide +kernel), by decide, by decide +kernel, by decide +kernel, by decide +kernel⟩
theorem lki_X11_138 : LKi RX11 138 M_X9_init 1 := ⟨lk_X11_138, List.mem_of_getElem? (i := 734) (by decide +kernel), rfl, rfl⟩
theorem lk_X9_1 : LK RX9 1 M_X4_init 1 := ⟨rfl, List.mem_of_getElem? (i := 736) (by decide +kernel), List.mem_of_getElem? (i := 710) (by decide +kernel), List.mem_of_getElem? (i := 62) (by decide +kernel), by decide, by decide +kernel, by decide +kernel, by decide +kernel⟩
theorem lki_X9_1 : LKi RX9 1 M_X4_init 1 := ⟨lk_X9_1, List.mem_of_getElem? (i := 709) (by decide +kernel), rfl, rfl⟩
theorem lk_L_93 : LK RL 93 M_X11_creditsFormula 1 := ⟨rfl, List.mem_of_getElem? (i := 742) (by decide +kernel), List.mem_of_getElem? (i := 745) (by decide +kernel), List.mem_of_getElem? (i := 41) (by decide +kernel), by decide, by decide +kernel, by decide +kernel, by decide +kernel⟩
theorem lkv_L_93 : LKv RL 93 M_X11_creditsFormula 1 := ⟨lk_L_93, List.mem_of_getElem? (i := 743) (by decide +kernel), List.mem_of_getElem? (i := 744) (by decide +kernel)⟩
theorem lk_X11_143 : LK RX11 143 M_X3_init 1 := ⟨rfl, List.mem_of_getElem? (i := 749) (by decide +kernel), List.mem_of_getElem? (i := 751) (by decide +kernel), List.mem_of_getElem? (i := 65) (by decide +kernel), by decide, by decide +kernel, by decide +kernel, by decide +kernel⟩
theorem lki_X11_143 : LKi RX11 143 M_X3_init 1 := ⟨lk_X11_143, List.mem_of_getElem? (i := 750) (by decide +kernel), rfl, rfl⟩
theorem lk_X3_1 : LK RX3 1 M_X4_init 1 := ⟨rfl, List.mem_of_getElem? (i := 752) (by decide +kernel), List.mem_of_getElem? (i := 710) (by decide +kernel), List.mem_of_getElem? (i := 62) (by decide +kernel), by decide, by decide +kernel, by decide +kernel, by decide +kernel⟩
theorem lki_X3_1 : LKi RX3 1 M_X4_init 1 := ⟨lk_X3_1, List.mem_of_getElem? (i := 709) (by decide +kernel), rfl, rfl⟩
theorem lk_L_96 : LK RL 96 M_X11_allFormula 2 := ⟨rfl, List.mem_of_getElem? (i := 758) (by decide +kernel), List.mem_of_getElem? (i := 761) (by decide +kernel), List.mem_of_getElem? (i := 41) (by decide +kernel), by decide, by decide +kernel, by decide +kernel, by decide +kernel⟩
theorem lkv_L_96 : LKv RL 96 M_X11_allFormula 2 := ⟨lk_L_96, List.mem_of_getElem? (i := 759) (by decide +kernel), List.mem_of_getElem? (i := 760) (by decide +kernel)⟩
theorem lk_X11_144 : LK RX11 144 M_X11_formulaAt 1 := ⟨rfl, List.mem_of_getElem? (i := 762) (by decide +kernel), List.mem_of_getElem? (i := 765) (by decide +kernel), List.mem_of_getElem? (i := 41) (by decide +kernel), by decide, by decide +kernel, by decide +kernel, by decide +kernel⟩
theorem lkv_X11_144 : LKv RX11 144 M_X11_formulaAt 1 := ⟨lk_X11_144, List.mem_of_getElem? (i := 764) (by decide +kernel), List.mem_of_getElem? (i := 29) (by decide +kernel)⟩
theorem lk_X11_161 : LK RX11 161 M_X1_init 5 := ⟨rfl, List.mem_of_getElem? (i := 784) (by decide +kernel), List.mem_of_getElem? (i := 786) (by decide +kernel), List.mem_of_getElem? (i := 67) (by decide +kernel), by decide, by decide +kernel, by decide +kernel, by decide +kernel⟩
theorem lki_X11_161 : LKi RX11 161 M_X1_init 5 := ⟨lk_X11_161, List.mem_of_getElem? (i := 785) (by decide +kernel), rfl, rfl⟩
theorem lk_X1_3 : LK RX1 3 M_X4_init 1 := ⟨rfl, List.mem_of_getElem? (i := 787) (by decide +kernel), List.mem_of_getElem? (i := 710) (by decide +kernel), List.mem_of_getElem? (i := 62) (by decide +kernel), by decide, by decide +kernel, by decide +kernel, by decide +kernel⟩
theorem lki_X1_3 : LKi RX1 3 M_X4_init 1 := ⟨lk_X1_3, List.mem_of_getElem? (i := 709) (by decide +kernel), rfl, rfl⟩
theorem lk_L_99 : LK RL 99 M_X11_anyFormula 2 := ⟨rfl, List.mem_of_getElem? (i := 802) (by decide +kernel), List.mem_of_getElem? (i := 805) (by decide +kernel), List.mem_of_getElem? (i := 41) (by decide +kernel), by decide, by decide +kernel, by decide +kernel, by decide +kernel⟩
theorem lkv_L_99 : LKv RL 99 M_X11_anyFormula 2 := ⟨lk_L_99, List.mem_of_getElem? (i := 803) (by decide +kernel), List.mem_of_getElem? (i := 804) (by decide +kernel)⟩
theorem lk_L_102 : LK RL 102 M_X11_twoFormula 3 := ⟨rfl, List.mem_of_getElem? (i := 806) (by decide +kernel), List.mem_of_getElem? (i := 809) (by decide +kernel), List.mem_of_getElem? (i := 41) (by decide +kernel), by decide, by decide +kernel, by decide +kernel, by decide +kernel⟩
theorem lkv_L_102 : LKv RL 102 M_X11_twoFormula 3 := ⟨lk_L_102, List.mem_of_getElem? (i := 807) (by decide +kernel), List.mem_of_getElem? (i := 808) (by decide +kernel)⟩
theorem lk_L_106 : LK RL 106 M_X11_noneFormula 1 := ⟨rfl, List.mem_of_getElem? (i := 810) (by decide +kernel), List.mem_of_getElem? (i := 813) (by decide +kernel), List.mem_of_getElem? (i := 41) (by decide +kernel), by decide, by decide +kernel, by decide +kernel, by decide +kernel⟩
theorem lkv_L_106 : LKv RL 106 M_X11_noneFormula 1 := ⟨lk_L_106, List.mem_of_getElem? (i := 811) (by decide +kernel), List.mem_of_getElem? (i := 812) (by decide +kernel)⟩
theorem lk_X11_166 : LK RX11 166 M_X6_init 2 := ⟨rfl, List.mem_of_getElem? (i := 816) (by decide +kernel), List.mem_of_getElem? (i := 818) (by decide +kernel), List.mem_of_getElem? (i := 68) (by decide +kernel), by decide, by decide +kernel, by decide +kernel, by decide +kernel⟩
theorem lki_X11_166 : LKi RX11 166 M_X6_init 2 := ⟨lk_X11_166, List.mem_of_getElem? (i := 817) (by decide +kernel), rfl, rfl⟩
theorem lk_X6_1 : LK RX6 1 M_X4_init 1 := ⟨rfl, List.mem_of_getElem? (i := 819) (by decide +kernel), List.mem_of_getElem? (i := 710) (by decide +kernel), List.mem_of_getElem? (i := 62) (by decide +kernel), by decide, by decide +kernel, by decide +kernel, by decide +kernel⟩
theorem lki_X6_1 : LKi RX6 1 M_X4_init 1 := ⟨lk_X6_1, List.mem_of_getElem? (i := 709) (by decide +kernel), rfl, rfl⟩
theorem lk_L_211 : LK RL 211 M_L_agrees 3 := ⟨rfl, List.mem_of_getElem? (i := 825) (by decide +kernel), List.mem_of_getElem? (i := 827) (by decide +kernel), List.mem_of_getElem? (i := 40) (by decide +kernel), by decide, by decide +kernel, by decide +kernel, by decide +kernel⟩
theorem lks_L_211 : LKs RL 211 M_L_agrees 3 := ⟨lk_L_211, List.mem_of_getElem? (i := 826) (by decide +kernel)⟩
theorem lk_L_109 : LK RL 109 M_X11_holds 2 := ⟨rfl, List.mem_of_getElem? (i := 828) (by decide +kernel), List.mem_of_getElem? (i := 831) (by decide +kernel), List.mem_of_getElem? (i := 41) (by decide +kernel), by decide, by decide +kernel, by decide +kernel, by decide +kernel⟩
theorem lkv_L_109 : LKv RL 109 M_X11_holds 2 := ⟨lk_L_109, List.mem_of_getElem? (i := 829) (by decide +kernel), List.mem_of_getElem? (i := 830) (by decide +kernel)⟩
theorem lk_X11_93 : LK RX11 93 M_X11_studentAt 1 := ⟨rfl, List.mem_of_getElem? (i := 832) (by decide +kernel), List.mem_of_getElem? (i := 835) (by decide +kernel), List.mem_of_getElem? (i := 41) (by decide +kernel), by decide, by decide +kernel, by decide +kernel, by decide +kernel⟩
theorem lkv_X11_93 : LKv RX11 93 M_X11_studentAt 1 := ⟨lk_X11_93, List.mem_of_getElem? (i := 834) (by decide +kernel), List.mem_of_getElem? (i := 30) (by decide +kernel)⟩
theorem lk_L_113 : LK RL 113 M_X12_holds 3 := ⟨rfl, List.mem_of_getElem? (i := 837) (by decide +kernel), List.mem_of_getElem? (i := 840) (by decide +kernel), List.mem_of_getElem? (i := 49) (by decide +kernel), by decide, by decide +kernel, by decide +kernel, by decide +kernel⟩
theorem lkv_L_113 : LKv RL 113 M_X12_holds 3 := ⟨lk_L_113, List.mem_of_getElem? (i := 838) (by decide +kernel), List.mem_of_getElem? (i := 839) (by decide +kernel)⟩
theorem lk_L_9 : LK RL 9 M_X11_bestMark 2 := ⟨rfl, List.mem_of_getElem? (i := 845) (by decide +kernel), List.mem_of_getElem? (i := 848) (by decide +kernel), List.mem_of_getElem? (i := 41) (by decide +kernel), by decide, by decide +kernel, by decide +kernel, by decide +kernel⟩
theorem lkv_L_9 : LKv RL 9 M_X11_bestMark 2 := ⟨lk_L_9, List.mem_of_getElem? (i := 846) (by decide +kernel), List.mem_of_getElem? (i := 847) (by decide +kernel)⟩
theorem lk_X12_43 : LK RX12 43 M_X11_isEnrolled 2 := ⟨rfl, List.mem_of_getElem? (i := 850) (by decide +kernel), List.mem_of_getElem? (i := 853) (by decide +kernel), List.mem_of_getElem? (i := 41) (by decide +kernel), by decide, by decide +kernel, by decide +kernel, by decide +kernel⟩
theorem lkv_X12_43 : LKv RX12 43 M_X11_isEnrolled 2 := ⟨lk_X12_43, List.mem_of_getElem? (i := 851) (by decide +kernel), List.mem_of_getElem? (i := 852) (by decide +kernel)⟩
theorem lk_X12_49 : LK RX12 49 M_X11_earnedCredits 1 := ⟨rfl, List.mem_of_getElem? (i := 854) (by decide +kernel), List.mem_of_getElem? (i := 857) (by decide +kernel), List.mem_of_getElem? (i := 41) (by decide +kernel), by decide, by decide +kernel, by decide +kernel, by decide +kernel⟩
theorem lkv_X12_49 : LKv RX12 49 M_X11_earnedCredits 1 := ⟨lk_X12_49, List.mem_of_getElem? (i := 855) (by decide +kernel), List.mem_of_getElem? (i := 856) (by decide +kernel)⟩
theorem lk_X12_53 : LK RX12 53 M_X12_holds 3 := ⟨rfl, List.mem_of_getElem? (i := 858) (by decide +kernel), List.mem_of_getElem? (i := 840) (by decide +kernel), List.mem_of_getElem? (i := 49) (by decide +kernel), by decide, by decide +kernel, by decide +kernel, by decide +kernel⟩
theorem lkv_X12_53 : LKv RX12 53 M_X12_holds 3 := ⟨lk_X12_53, List.mem_of_getElem? (i := 838) (by decide +kernel), List.mem_of_getElem? (i := 839) (by decide +kernel)⟩
theorem lk_L_116 : LK RL 116 M_X11_load 1 := ⟨rfl, List.mem_of_getElem? (i := 859) (by decide +kernel), List.mem_of_getElem? (i := 862) (by decide +kernel), List.mem_of_getElem? (i := 41) (by decide +kernel), by decide, by decide +kernel, by decide +kernel, by decide +kernel⟩
theorem lkv_L_116 : LKv RL 116 M_X11_load 1 := ⟨lk_L_116, List.mem_of_getElem? (i := 860) (by decide +kernel), List.mem_of_getElem? (i := 861) (by decide +kernel)⟩
theorem lk_L_119 : LK RL 119 M_X12_load 2 := ⟨rfl, List.mem_of_getElem? (i := 863) (by decide +kernel), List.mem_of_getElem? (i := 866) (by decide +kernel), List.mem_of_getElem? (i := 49) (by decide +kernel), by decide, by decide +kernel, by decide +kernel, by decide +kernel⟩
theorem lkv_L_119 : LKv RL 119 M_X12_load 2 := ⟨lk_L_119, List.mem_of_getElem? (i := 864) (by decide +kernel), List.mem_of_getElem? (i := 865) (by decide +kernel)⟩
theorem lk_L_122 : LK RL 122 M_X11_earnedCredits 1 := ⟨rfl, List.mem_of_getElem? (i := 867) (by decide +kernel), List.mem_of_getElem? (i := 857) (by decide +kernel), List.mem_of_getElem? (i := 41) (by decide +kernel), by decide, by decide +kernel, by decide +kernel, by decide +kernel⟩
theorem lkv_L_122 : LKv RL 122 M_X11_earnedCredits 1 := ⟨lk_L_122, List.mem_of_getElem? (i := 855) (by decide +kernel), List.mem_of_getElem? (i := 856) (by decide +kernel)⟩
theorem lk_L_125 : LK RL 125 M_X12_earned 2 := ⟨rfl, List.mem_of_getElem? (i := 868) (by decide +kernel), List.mem_of_getElem? (i := 871) (by decide +kernel), List.mem_of_getElem? (i := 49) (by decide +kernel), by decide, by decide +kernel, by decide +kernel, by decide +kernel⟩
theorem lkv_L_125 : LKv RL 125 M_X12_earned 2 := ⟨lk_L_125, List.mem_of_getElem? (i := 869) (by decide +kernel), List.mem_of_getElem? (i := 870) (by decide +kernel)⟩
theorem lk_L_128 : LK RL 128 M_X11_enrolled 1 := ⟨rfl, List.mem_of_getElem? (i := 872) (by decide +kernel), List.mem_of_getElem? (i := 875) (by decide +kernel), List.mem_of_getElem? (i := 41) (by decide +kernel), by decide, by decide +kernel, by decide +kernel, by decide +kernel⟩
theorem lkv_L_128 : LKv RL 128 M_X11_enrolled 1 := ⟨lk_L_128, List.mem_of_getElem? (i := 873) (by decide +kernel), List.mem_of_getElem? (i := 874) (by decide +kernel)⟩
theorem lk_L_131 : LK RL 131 M_X12_of 3 := ⟨rfl, List.mem_of_getElem? (i := 876) (by decide +kernel), List.mem_of_getElem? (i := 879) (by decide +kernel), List.mem_of_getElem? (i := 49) (by decide +kernel), by decide, by decide +kernel, by decide +kernel, by decide +kernel⟩
theorem lkv_L_131 : LKv RL 131 M_X12_of 3 := ⟨lk_L_131, List.mem_of_getElem? (i := 877) (by decide +kernel), List.mem_of_getElem? (i := 878) (by decide +kernel)⟩
theorem lk_L_135 : LK RL 135 M_X11_freeSeats 2 := ⟨rfl, List.mem_of_getElem? (i := 880) (by decide +kernel), List.mem_of_getElem? (i := 883) (by decide +kernel), List.mem_of_getElem? (i := 41) (by decide +kernel), by decide, by decide +kernel, by decide +kernel, by decide +kernel⟩
theorem lkv_L_135 : LKv RL 135 M_X11_freeSeats 2 := ⟨lk_L_135, List.mem_of_getElem? (i := 881) (by decide +kernel), List.mem_of_getElem? (i := 882) (by decide +kernel)⟩
theorem lk_L_138 : LK RL 138 M_X12_free 3 := ⟨rfl, List.mem_of_getElem? (i := 884) (by decide +kernel), List.mem_of_getElem? (i := 887) (by decide +kernel), List.mem_of_getElem? (i := 49) (by decide +kernel), by decide, by decide +kernel, by decide +kernel, by decide +kernel⟩
theorem lkv_L_138 : LKv RL 138 M_X12_free 3 := ⟨lk_L_138, List.mem_of_getElem? (i := 885) (by decide +kernel), List.mem_of_getElem? (i := 886) (by decide +kernel)⟩
theorem lk_X12_57 : LK RX12 57 M_X12_of 3 := ⟨rfl, List.mem_of_getElem? (i := 888) (by decide +kernel), List.mem_of_getElem? (i := 879) (by decide +kernel), List.mem_of_getElem? (i := 49) (by decide +kernel), by decide, by decide +kernel, by decide +kernel, by decide +kernel⟩
theorem lkv_X12_57 : LKv RX12 57 M_X12_of 3 := ⟨lk_X12_57, List.mem_of_getElem? (i := 877) (by decide +kernel), List.mem_of_getElem? (i := 878) (by decide +kernel)⟩
theorem lk_X12_60 : LK RX12 60 M_X11_day 0 := ⟨rfl, List.mem_of_getElem? (i := 889) (by decide +kernel), List.mem_of_getElem? (i := 892) (by decide +kernel), List.mem_of_getElem? (i := 41) (by decide +kernel), by decide, by decide +kernel, by decide +kernel, by decide +kernel⟩
theorem lkv_X12_60 : LKv RX12 60 M_X11_day 0 := ⟨lk_X12_60, List.mem_of_getElem? (i := 890) (by decide +kernel), List.mem_of_getElem? (i := 891) (by decide +kernel)⟩
theorem lk_X12_64 : LK RX12 64 M_J9_max_7cf53 2 := ⟨rfl, List.mem_of_getElem? (i := 893) (by decide +kernel), List.mem_of_getElem? (i := 285) (by decide +kernel), List.mem_of_getElem? (i := 57) (by decide +kernel), by decide, by decide +kernel, by decide +kernel, by decide +kernel⟩
theorem lks_X12_64 : LKs RX12 64 M_J9_max_7cf53 2 := ⟨lk_X12_64, List.mem_of_getElem? (i := 284) (by decide +kernel)⟩
theorem lk_L_141 : LK RL 141 M_X11_outcome 2 := ⟨rfl, List.mem_of_getElem? (i := 894) (by decide +kernel), List.mem_of_getElem? (i := 897) (by decide +kernel), List.mem_of_getElem? (i := 41) (by decide +kernel), by decide, by decide +kernel, by decide +kernel, by decide +kernel⟩
theorem lkv_L_141 : LKv RL 141 M_X11_outcome 2 := ⟨lk_L_141, List.mem_of_getElem? (i := 895) (by decide +kernel), List.mem_of_getElem? (i := 896) (by decide +kernel)⟩
theorem lk_X11_191 : LK RX11 191 M_X11_letterFor 2 := ⟨rfl, List.mem_of_getElem? (i := 898) (by decide +kernel), List.mem_of_getElem? (i := 901) (by decide +kernel), List.mem_of_getElem? (i := 41) (by decide +kernel), by decide, by decide +kernel, by decide +kernel, by decide +kernel⟩
theorem lkv_X11_191 : LKv RX11 191 M_X11_letterFor 2 := ⟨lk_X11_191, List.mem_of_getElem? (i := 900) (by decide +kernel), List.mem_of_getElem? (i := 31) (by decide +kernel)⟩
theorem lk_X11_220 : LK RX11 220 M_X2_placeFor 1 := ⟨rfl, List.mem_of_getElem? (i := 902) (by decide +kernel), List.mem_of_getElem? (i := 905) (by decide +kernel), List.mem_of_getElem? (i := 55) (by decide +kernel), by decide, by decide +kernel, by decide +kernel, by decide +kernel⟩
theorem lkv_X11_220 : LKv RX11 220 M_X2_placeFor 1 := ⟨lk_X11_220, List.mem_of_getElem? (i := 903) (by decide +kernel), List.mem_of_getElem? (i := 904) (by decide +kernel)⟩
theorem lk_X2_35 : LK RX2 35 M_Jx4a65c_size_8abf5 0 := ⟨rfl, List.mem_of_getElem? (i := 906) (by decide +kernel), List.mem_of_getElem? (i := 247) (by decide +kernel), List.mem_of_getElem? (i := 44) (by decide +kernel), by decide, by decide +kernel, by decide +kernel, by decide +kernel⟩
theorem lkv_X2_35 : LKv RX2 35 M_Jx4a65c_size_8abf5 0 := ⟨lk_X2_35, List.mem_of_getElem? (i := 245) (by decide +kernel), List.mem_of_getElem? (i := 246) (by decide +kernel)⟩
theorem lk_X2_39 : LK RX2 39 M_Jx4a65c_get_915e3 1 := ⟨rfl, List.mem_of_getElem? (i := 907) (by decide +kernel), List.mem_of_getElem? (i := 251) (by decide +kernel), List.mem_of_getElem? (i := 44) (by decide +kernel), by decide, by decide +kernel, by decide +kernel, by decide +kernel⟩
theorem lkv_X2_39 : LKv RX2 39 M_Jx4a65c_get_915e3 1 := ⟨lk_X2_39, List.mem_of_getElem? (i := 249) (by decide +kernel), List.mem_of_getElem? (i := 250) (by decide +kernel)⟩
theorem lk_L_144 : LK RL 144 M_X12_would 3 := ⟨rfl, List.mem_of_getElem? (i := 908) (by decide +kernel), List.mem_of_getElem? (i := 911) (by decide +kernel), List.mem_of_getElem? (i := 49) (by decide +kernel), by decide, by decide +kernel, by decide +kernel, by decide +kernel⟩
theorem lkv_L_144 : LKv RL 144 M_X12_would 3 := ⟨lk_L_144, List.mem_of_getElem? (i := 909) (by decide +kernel), List.mem_of_getElem? (i := 910) (by decide +kernel)⟩
theorem lk_L_34 : LK RL 34 M_X11_placeOf 2 := ⟨rfl, List.mem_of_getElem? (i := 915) (by decide +kernel), List.mem_of_getElem? (i := 918) (by decide +kernel), List.mem_of_getElem? (i := 41) (by decide +kernel), by decide, by decide +kernel, by decide +kernel, by decide +kernel⟩
theorem lkv_L_34 : LKv RL 34 M_X11_placeOf 2 := ⟨lk_L_34, List.mem_of_getElem? (i := 916) (by decide +kernel), List.mem_of_getElem? (i := 917) (by decide +kernel)⟩
theorem lk_X12_73 : LK RX12 73 M_X12_may 3 := ⟨rfl, List.mem_of_getElem? (i := 920) (by decide +kernel), List.mem_of_getElem? (i := 923) (by decide +kernel), List.mem_of_getElem? (i := 49) (by decide +kernel), by decide, by decide +kernel, by decide +kernel, by decide +kernel⟩
theorem lkv_X12_73 : LKv RX12 73 M_X12_may 3 := ⟨lk_X12_73, List.mem_of_getElem? (i := 921) (by decide +kernel), List.mem_of_getElem? (i := 922) (by decide +kernel)⟩
theorem lk_X12_76 : LK RX12 76 M_X11_attempts 2 := ⟨rfl, List.mem_of_getElem? (i := 924) (by decide +kernel), List.mem_of_getElem? (i := 927) (by decide +kernel), List.mem_of_getElem? (i := 41) (by decide +kernel), by decide, by decide +kernel, by decide +kernel, by decide +kernel⟩
theorem lkv_X12_76 : LKv RX12 76 M_X11_attempts 2 := ⟨lk_X12_76, List.mem_of_getElem? (i := 925) (by decide +kernel), List.mem_of_getElem? (i := 926) (by decide +kernel)⟩
theorem lk_X12_79 : LK RX12 79 M_X12_load 2 := ⟨rfl, List.mem_of_getElem? (i := 928) (by decide +kernel), List.mem_of_getElem? (i := 866) (by decide +kernel), List.mem_of_getElem? (i := 49) (by decide +kernel), by decide, by decide +kernel, by decide +kernel, by decide +kernel⟩
theorem lkv_X12_79 : LKv RX12 79 M_X12_load 2 := ⟨lk_X12_79, List.mem_of_getElem? (i := 864) (by decide +kernel), List.mem_of_getElem? (i := 865) (by decide +kernel)⟩
theorem lk_X12_83 : LK RX12 83 M_X12_free 3 := ⟨rfl, List.mem_of_getElem? (i := 929) (by decide +kernel), List.mem_of_getElem? (i := 887) (by decide +kernel), List.mem_of_getElem? (i := 49) (by decide +kernel), by decide, by decide +kernel, by decide +kernel, by decide +kernel⟩
theorem lkv_X12_83 : LKv RX12 83 M_X12_free 3 := ⟨lk_X12_83, List.mem_of_getElem? (i := 885) (by decide +kernel), List.mem_of_getElem? (i := 886) (by decide +kernel)⟩
theorem lk_X12_86 : LK RX12 86 M_X11_waiting 1 := ⟨rfl, List.mem_of_getElem? (i := 930) (by decide +kernel), List.mem_of_getElem? (i := 933) (by decide +kernel), List.mem_of_getElem? (i := 41) (by decide +kernel), by decide, by decide +kernel, by decide +kernel, by decide +kernel⟩
theorem lkv_X12_86 : LKv RX12 86 M_X11_waiting 1 := ⟨lk_X12_86, List.mem_of_getElem? (i := 931) (by decide +kernel), List.mem_of_getElem? (i := 932) (by decide +kernel)⟩
theorem lk_L_148 : LK RL 148 M_X11_waiting 1 := ⟨rfl, List.mem_of_getElem? (i := 934) (by decide +kernel), List.mem_of_getElem? (i := 933) (by decide +kernel), List.mem_of_getElem? (i := 41) (by decide +kernel), by decide, by decide +kernel, by decide +kernel, by decide +kernel⟩
theorem lkv_L_148 : LKv RL 148 M_X11_waiting 1 := ⟨lk_L_148, List.mem_of_getElem? (i := 931) (by decide +kernel), List.mem_of_getElem? (i := 932) (by decide +kernel)⟩
theorem lk_L_154 : LK RL 154 M_X11_isEnrolled 2 := ⟨rfl, List.mem_of_getElem? (i := 936) (by decide +kernel), List.mem_of_getElem? (i := 853) (by decide +kernel), List.mem_of_getElem? (i := 41) (by decide +kernel), by decide, by decide +kernel, by decide +kernel, by decide +kernel⟩
theorem lkv_L_154 : LKv RL 154 M_X11_isEnrolled 2 := ⟨lk_L_154, List.mem_of_getElem? (i := 851) (by decide +kernel), List.mem_of_getElem? (i := 852) (by decide +kernel)⟩
theorem lk_L_157 : LK RL 157 M_X11_day 0 := ⟨rfl, List.mem_of_getElem? (i := 937) (by decide +kernel), List.mem_of_getElem? (i := 892) (by decide +kernel), List.mem_of_getElem? (i := 41) (by decide +kernel), by decide, by decide +kernel, by decide +kernel, by decide +kernel⟩
theorem lkv_L_157 : LKv RL 157 M_X11_day 0 := ⟨lk_L_157, List.mem_of_getElem? (i := 890) (by decide +kernel), List.mem_of_getElem? (i := 891) (by decide +kernel)⟩
theorem lk_L_161 : LK RL 161 M_X12_may 3 := ⟨rfl, List.mem_of_getElem? (i := 938) (by decide +kernel), List.mem_of_getElem? (i := 923) (by decide +kernel), List.mem_of_getElem? (i := 49) (by decide +kernel), by decide, by decide +kernel, by decide +kernel, by decide +kernel⟩
theorem lkv_L_161 : LKv RL 161 M_X12_may 3 := ⟨lk_L_161, List.mem_of_getElem? (i := 921) (by decide +kernel), List.mem_of_getElem? (i := 922) (by decide +kernel)⟩
theorem lk_L_215 : LK RL 215 M_L_enrolls 4 := ⟨rfl, List.mem_of_getElem? (i := 939) (by decide +kernel), List.mem_of_getElem? (i := 941) (by decide +kernel), List.mem_of_getElem? (i := 40) (by decide +kernel), by decide, by decide +kernel, by decide +kernel, by decide +kernel⟩
theorem lks_L_215 : LKs RL 215 M_L_enrolls 4 := ⟨lk_L_215, List.mem_of_getElem? (i := 940) (by decide +kernel)⟩
theorem lk_L_17 : LK RL 17 M_X11_enroll 2 := ⟨rfl, List.mem_of_getElem? (i := 983) (by decide +kernel), List.mem_of_getElem? (i := 986) (by decide +kernel), List.mem_of_getElem? (i := 41) (by decide +kernel), by decide, by decide +kernel, by decide +kernel, by decide +kernel⟩
theorem lkv_L_17 : LKv RL 17 M_X11_enroll 2 := ⟨lk_L_17, List.mem_of_getElem? (i := 984) (by decide +kernel), List.mem_of_getElem? (i := 985) (by decide +kernel)⟩
theorem lk_X11_101 : LK RX11 101 M_X11_giveOutSeats 0 := ⟨rfl, List.mem_of_getElem? (i := 1009) (by decide +kernel), List.mem_of_getElem? (i := 1012) (by decide +kernel), List.mem_of_getElem? (i := 41) (by decide +kernel), by decide, by decide +kernel, by decide +kernel, by decide +kernel⟩
theorem lkv_X11_101 : LKv RX11 101 M_X11_giveOutSeats 0 := ⟨lk_X11_101, List.mem_of_getElem? (i := 1011) (by decide +kernel), List.mem_of_getElem? (i := 32) (by decide +kernel)⟩
theorem lk_X11_434 : LK RX11 434 M_X11_giveSeatIn 1 := ⟨rfl, List.mem_of_getElem? (i := 1013) (by decide +kernel), List.mem_of_getElem? (i := 1016) (by decide +kernel), List.mem_of_getElem? (i := 41) (by decide +kernel), by decide, by decide +kernel, by decide +kernel, by decide +kernel⟩
theorem lkv_X11_434 : LKv RX11 434 M_X11_giveSeatIn 1 := ⟨lk_X11_434, List.mem_of_getElem? (i := 1015) (by decide +kernel), List.mem_of_getElem? (i := 33) (by decide +kernel)⟩
theorem lk_X11_440 : LK RX11 440 M_Jx4a65c_remove_915e3 1 := ⟨rfl, List.mem_of_getElem? (i := 1017) (by decide +kernel), List.mem_of_getElem? (i := 1020) (by decide +kernel), List.mem_of_getElem? (i := 44) (by decide +kernel), by decide, by decide +kernel, by decide +kernel, by decide +kernel⟩
theorem lkv_X11_440 : LKv RX11 440 M_Jx4a65c_remove_915e3 1 := ⟨lk_X11_440, List.mem_of_getElem? (i := 1018) (by decide +kernel), List.mem_of_getElem? (i := 1019) (by decide +kernel)⟩
theorem lk_Jx4a65c_144 : LK RJx4a65c 144 M_Jx4a65c_fastRemove_b59b0 2 := ⟨rfl, List.mem_of_getElem? (i := 1021) (by decide +kernel), List.mem_of_getElem? (i := 1024) (by decide +kernel), List.mem_of_getElem? (i := 44) (by decide +kernel), by decide, by decide +kernel, by decide +kernel, by decide +kernel⟩
theorem lkv_Jx4a65c_144 : LKv RJx4a65c 144 M_Jx4a65c_fastRemove_b59b0 2 := ⟨lk_Jx4a65c_144, List.mem_of_getElem? (i := 1023) (by decide +kernel), List.mem_of_getElem? (i := 34) (by decide +kernel)⟩
theorem lk_L_219 : LK RL 219 M_L_drops 4 := ⟨rfl, List.mem_of_getElem? (i := 1026) (by decide +kernel), List.mem_of_getElem? (i := 1028) (by decide +kernel), List.mem_of_getElem? (i := 40) (by decide +kernel), by decide, by decide +kernel, by decide +kernel, by decide +kernel⟩
theorem lks_L_219 : LKs RL 219 M_L_drops 4 := ⟨lk_L_219, List.mem_of_getElem? (i := 1027) (by decide +kernel)⟩
theorem lk_L_166 : LK RL 166 M_X11_attempts 2 := ⟨rfl, List.mem_of_getElem? (i := 1029) (by decide +kernel), List.mem_of_getElem? (i := 927) (by decide +kernel), List.mem_of_getElem? (i := 41) (by decide +kernel), by decide, by decide +kernel, by decide +kernel, by decide +kernel⟩
theorem lkv_L_166 : LKv RL 166 M_X11_attempts 2 := ⟨lk_L_166, List.mem_of_getElem? (i := 925) (by decide +kernel), List.mem_of_getElem? (i := 926) (by decide +kernel)⟩
theorem lk_L_169 : LK RL 169 M_X11_drop 2 := ⟨rfl, List.mem_of_getElem? (i := 1030) (by decide +kernel), List.mem_of_getElem? (i := 1033) (by decide +kernel), List.mem_of_getElem? (i := 41) (by decide +kernel), by decide, by decide +kernel, by decide +kernel, by decide +kernel⟩
theorem lkv_L_169 : LKv RL 169 M_X11_drop 2 := ⟨lk_L_169, List.mem_of_getElem? (i := 1031) (by decide +kernel), List.mem_of_getElem? (i := 1032) (by decide +kernel)⟩
theorem lk_X11_228 : LK RX11 228 M_X11_endWithOthers 2 := ⟨rfl, List.mem_of_getElem? (i := 1036) (by decide +kernel), List.mem_of_getElem? (i := 1039) (by decide +kernel), List.mem_of_getElem? (i := 41) (by decide +kernel), by decide, by decide +kernel, by decide +kernel, by decide +kernel⟩
theorem lkv_X11_228 : LKv RX11 228 M_X11_endWithOthers 2 := ⟨lk_X11_228, List.mem_of_getElem? (i := 1038) (by decide +kernel), List.mem_of_getElem? (i := 35) (by decide +kernel)⟩
theorem lk_X11_236 : LK RX11 236 M_X11_isWithdrawalDay 0 := ⟨rfl, List.mem_of_getElem? (i := 1040) (by decide +kernel), List.mem_of_getElem? (i := 1043) (by decide +kernel), List.mem_of_getElem? (i := 41) (by decide +kernel), by decide, by decide +kernel, by decide +kernel, by decide +kernel⟩
theorem lkv_X11_236 : LKv RX11 236 M_X11_isWithdrawalDay 0 := ⟨lk_X11_236, List.mem_of_getElem? (i := 1042) (by decide +kernel), List.mem_of_getElem? (i := 36) (by decide +kernel)⟩
theorem lk_X11_422 : LK RX11 422 M_X8_addAttempt 2 := ⟨rfl, List.mem_of_getElem? (i := 1044) (by decide +kernel), List.mem_of_getElem? (i := 1047) (by decide +kernel), List.mem_of_getElem? (i := 45) (by decide +kernel), by decide, by decide +kernel, by decide +kernel, by decide +kernel⟩
theorem lkv_X11_422 : LKv RX11 422 M_X8_addAttempt 2 := ⟨lk_X11_422, List.mem_of_getElem? (i := 1045) (by decide +kernel), List.mem_of_getElem? (i := 1046) (by decide +kernel)⟩
theorem lk_X8_43 : LK RX8 43 M_J9_max_7cf53 2 := ⟨rfl, List.mem_of_getElem? (i := 1048) (by decide +kernel), List.mem_of_getElem? (i := 285) (by decide +kernel), List.mem_of_getElem? (i := 57) (by decide +kernel), by decide, by decide +kernel, by decide +kernel, by decide +kernel⟩
theorem lks_X8_43 : LKs RX8 43 M_J9_max_7cf53 2 := ⟨lk_X8_43, List.mem_of_getElem? (i := 284) (by decide +kernel)⟩
theorem lk_X11_446 : LK RX11 446 M_X11_firstUnmet 1 := ⟨rfl, List.mem_of_getElem? (i := 1049) (by decide +kernel), List.mem_of_getElem? (i := 1052) (by decide +kernel), List.mem_of_getElem? (i := 41) (by decide +kernel), by decide, by decide +kernel, by decide +kernel, by decide +kernel⟩
theorem lkv_X11_446 : LKv RX11 446 M_X11_firstUnmet 1 := ⟨lk_X11_446, List.mem_of_getElem? (i := 1051) (by decide +kernel), List.mem_of_getElem? (i := 37) (by decide +kernel)⟩
theorem lk_X11_232 : LK RX11 232 M_X2_stopWaiting 1 := ⟨rfl, List.mem_of_getElem? (i := 1053) (by decide +kernel), List.mem_of_getElem? (i := 1056) (by decide +kernel), List.mem_of_getElem? (i := 55) (by decide +kernel), by decide, by decide +kernel, by decide +kernel, by decide +kernel⟩
theorem lkv_X11_232 : LKv RX11 232 M_X2_stopWaiting 1 := ⟨lk_X11_232, List.mem_of_getElem? (i := 1054) (by decide +kernel), List.mem_of_getElem? (i := 1055) (by decide +kernel)⟩
theorem lk_X2_43 : LK RX2 43 M_X2_placeFor 1 := ⟨rfl, List.mem_of_getElem? (i := 1057) (by decide +kernel), List.mem_of_getElem? (i := 905) (by decide +kernel), List.mem_of_getElem? (i := 55) (by decide +kernel), by decide, by decide +kernel, by decide +kernel, by decide +kernel⟩
theorem lkv_X2_43 : LKv RX2 43 M_X2_placeFor 1 := ⟨lk_X2_43, List.mem_of_getElem? (i := 903) (by decide +kernel), List.mem_of_getElem? (i := 904) (by decide +kernel)⟩
theorem lk_X2_47 : LK RX2 47 M_Jx4a65c_remove_915e3 1 := ⟨rfl, List.mem_of_getElem? (i := 1058) (by decide +kernel), List.mem_of_getElem? (i := 1020) (by decide +kernel), List.mem_of_getElem? (i := 44) (by decide +kernel), by decide, by decide +kernel, by decide +kernel, by decide +kernel⟩
theorem lkv_X2_47 : LKv RX2 47 M_Jx4a65c_remove_915e3 1 := ⟨lk_X2_47, List.mem_of_getElem? (i := 1018) (by decide +kernel), List.mem_of_getElem? (i := 1019) (by decide +kernel)⟩
theorem lk_L_222 : LK RL 222 M_L_ends 3 := ⟨rfl, List.mem_of_getElem? (i := 1059) (by decide +kernel), List.mem_of_getElem? (i := 1061) (by decide +kernel), List.mem_of_getElem? (i := 40) (by decide +kernel), by decide, by decide +kernel, by decide +kernel, by decide +kernel⟩
theorem lks_L_222 : LKs RL 222 M_L_ends 3 := ⟨lk_L_222, List.mem_of_getElem? (i := 1060) (by decide +kernel)⟩
theorem lk_L_172 : LK RL 172 M_X11_pass 1 := ⟨rfl, List.mem_of_getElem? (i := 1062) (by decide +kernel), List.mem_of_getElem? (i := 1065) (by decide +kernel), List.mem_of_getElem? (i := 41) (by decide +kernel), by decide, by decide +kernel, by decide +kernel, by decide +kernel⟩
theorem lkv_L_172 : LKv RL 172 M_X11_pass 1 := ⟨lk_L_172, List.mem_of_getElem? (i := 1063) (by decide +kernel), List.mem_of_getElem? (i := 1064) (by decide +kernel)⟩
theorem lk_X11_185 : LK RX11 185 M_X11_emptyWaitingLists 0 := ⟨rfl, List.mem_of_getElem? (i := 1068) (by decide +kernel), List.mem_of_getElem? (i := 1071) (by decide +kernel), List.mem_of_getElem? (i := 41) (by decide +kernel), by decide, by decide +kernel, by decide +kernel, by decide +kernel⟩
theorem lkv_X11_185 : LKv RX11 185 M_X11_emptyWaitingLists 0 := ⟨lk_X11_185, List.mem_of_getElem? (i := 1070) (by decide +kernel), List.mem_of_getElem? (i := 38) (by decide +kernel)⟩
theorem lk_X11_443 : LK RX11 443 M_Jx4a65c_clear_da8c8 0 := ⟨rfl, List.mem_of_getElem? (i := 1072) (by decide +kernel), List.mem_of_getElem? (i := 1075) (by decide +kernel), List.mem_of_getElem? (i := 44) (by decide +kernel), by decide, by decide +kernel, by decide +kernel, by decide +kernel⟩
theorem lkv_X11_443 : LKv RX11 443 M_Jx4a65c_clear_da8c8 0 := ⟨lk_X11_443, List.mem_of_getElem? (i := 1073) (by decide +kernel), List.mem_of_getElem? (i := 1074) (by decide +kernel)⟩
theorem lk_L_175 : LK RL 175 M_X11_mark 3 := ⟨rfl, List.mem_of_getElem? (i := 1076) (by decide +kernel), List.mem_of_getElem? (i := 1079) (by decide +kernel), List.mem_of_getElem? (i := 41) (by decide +kernel), by decide, by decide +kernel, by decide +kernel, by decide +kernel⟩
theorem lkv_L_175 : LKv RL 175 M_X11_mark 3 := ⟨lk_L_175, List.mem_of_getElem? (i := 1077) (by decide +kernel), List.mem_of_getElem? (i := 1078) (by decide +kernel)⟩
theorem lk_L_179 : LK RL 179 M_X11_endTerm 0 := ⟨rfl, List.mem_of_getElem? (i := 1082) (by decide +kernel), List.mem_of_getElem? (i := 1085) (by decide +kernel), List.mem_of_getElem? (i := 41) (by decide +kernel), by decide, by decide +kernel, by decide +kernel, by decide +kernel⟩
theorem lkv_L_179 : LKv RL 179 M_X11_endTerm 0 := ⟨lk_L_179, List.mem_of_getElem? (i := 1083) (by decide +kernel), List.mem_of_getElem? (i := 1084) (by decide +kernel)⟩
theorem lk_X11_280 : LK RX11 280 M_X8_closeTerm 0 := ⟨rfl, List.mem_of_getElem? (i := 1086) (by decide +kernel), List.mem_of_getElem? (i := 1089) (by decide +kernel), List.mem_of_getElem? (i := 45) (by decide +kernel), by decide, by decide +kernel, by decide +kernel, by decide +kernel⟩
theorem lkv_X11_280 : LKv RX11 280 M_X8_closeTerm 0 := ⟨lk_X11_280, List.mem_of_getElem? (i := 1087) (by decide +kernel), List.mem_of_getElem? (i := 1088) (by decide +kernel)⟩
theorem lk_X8_49 : LK RX8 49 M_X8_addAttempt 2 := ⟨rfl, List.mem_of_getElem? (i := 1090) (by decide +kernel), List.mem_of_getElem? (i := 1047) (by decide +kernel), List.mem_of_getElem? (i := 45) (by decide +kernel), by decide, by decide +kernel, by decide +kernel, by decide +kernel⟩
theorem lkv_X8_49 : LKv RX8 49 M_X8_addAttempt 2 := ⟨lk_X8_49, List.mem_of_getElem? (i := 1045) (by decide +kernel), List.mem_of_getElem? (i := 1046) (by decide +kernel)⟩
theorem lk_L_225 : LK RL 225 M_L_changes 3 := ⟨rfl, List.mem_of_getElem? (i := 1091) (by decide +kernel), List.mem_of_getElem? (i := 1093) (by decide +kernel), List.mem_of_getElem? (i := 40) (by decide +kernel), by decide, by decide +kernel, by decide +kernel, by decide +kernel⟩
theorem lks_L_225 : LKs RL 225 M_L_changes 3 := ⟨lk_L_225, List.mem_of_getElem? (i := 1092) (by decide +kernel)⟩
theorem lk_L_185 : LK RL 185 M_X11_reserve 3 := ⟨rfl, List.mem_of_getElem? (i := 1094) (by decide +kernel), List.mem_of_getElem? (i := 1097) (by decide +kernel), List.mem_of_getElem? (i := 41) (by decide +kernel), by decide, by decide +kernel, by decide +kernel, by decide +kernel⟩
theorem lkv_L_185 : LKv RL 185 M_X11_reserve 3 := ⟨lk_L_185, List.mem_of_getElem? (i := 1095) (by decide +kernel), List.mem_of_getElem? (i := 1096) (by decide +kernel)⟩
theorem lk_X11_116 : LK RX11 116 M_X2_allReserved 0 := ⟨rfl, List.mem_of_getElem? (i := 1099) (by decide +kernel), List.mem_of_getElem? (i := 1102) (by decide +kernel), List.mem_of_getElem? (i := 55) (by decide +kernel), by decide, by decide +kernel, by decide +kernel, by decide +kernel⟩
theorem lkv_X11_116 : LKv RX11 116 M_X2_allReserved 0 := ⟨lk_X11_116, List.mem_of_getElem? (i := 1100) (by decide +kernel), List.mem_of_getElem? (i := 1101) (by decide +kernel)⟩
theorem lk_L_191 : LK RL 191 M_X11_require 2 := ⟨rfl, List.mem_of_getElem? (i := 1104) (by decide +kernel), List.mem_of_getElem? (i := 1107) (by decide +kernel), List.mem_of_getElem? (i := 41) (by decide +kernel), by decide, by decide +kernel, by decide +kernel, by decide +kernel⟩
theorem lkv_L_191 : LKv RL 191 M_X11_require 2 := ⟨lk_L_191, List.mem_of_getElem? (i := 1105) (by decide +kernel), List.mem_of_getElem? (i := 1106) (by decide +kernel)⟩
theorem lk_L_194 : LK RL 194 M_X11_lift 1 := ⟨rfl, List.mem_of_getElem? (i := 1108) (by decide +kernel), List.mem_of_getElem? (i := 1111) (by decide +kernel), List.mem_of_getElem? (i := 41) (by decide +kernel), by decide, by decide +kernel, by decide +kernel, by decide +kernel⟩
theorem lkv_L_194 : LKv RL 194 M_X11_lift 1 := ⟨lk_L_194, List.mem_of_getElem? (i := 1109) (by decide +kernel), List.mem_of_getElem? (i := 1110) (by decide +kernel)⟩
theorem lk_L_198 : LK RL 198 M_X11_changeMajor 2 := ⟨rfl, List.mem_of_getElem? (i := 1112) (by decide +kernel), List.mem_of_getElem? (i := 1115) (by decide +kernel), List.mem_of_getElem? (i := 41) (by decide +kernel), by decide, by decide +kernel, by decide +kernel, by decide +kernel⟩
theorem lkv_L_198 : LKv RL 198 M_X11_changeMajor 2 := ⟨lk_L_198, List.mem_of_getElem? (i := 1113) (by decide +kernel), List.mem_of_getElem? (i := 1114) (by decide +kernel)⟩
theorem lk_L_31 : LK RL 31 M_X11_moveIn 2 := ⟨rfl, List.mem_of_getElem? (i := 1120) (by decide +kernel), List.mem_of_getElem? (i := 1123) (by decide +kernel), List.mem_of_getElem? (i := 41) (by decide +kernel), by decide, by decide +kernel, by decide +kernel, by decide +kernel⟩
theorem lkv_L_31 : LKv RL 31 M_X11_moveIn 2 := ⟨lk_L_31, List.mem_of_getElem? (i := 1121) (by decide +kernel), List.mem_of_getElem? (i := 1122) (by decide +kernel)⟩
theorem lk_X11_289 : LK RX11 289 M_X11_creditsMovedIn 1 := ⟨rfl, List.mem_of_getElem? (i := 1125) (by decide +kernel), List.mem_of_getElem? (i := 1128) (by decide +kernel), List.mem_of_getElem? (i := 41) (by decide +kernel), by decide, by decide +kernel, by decide +kernel, by decide +kernel⟩
theorem lkv_X11_289 : LKv RX11 289 M_X11_creditsMovedIn 1 := ⟨lk_X11_289, List.mem_of_getElem? (i := 1127) (by decide +kernel), List.mem_of_getElem? (i := 39) (by decide +kernel)⟩
theorem lk_X11_297 : LK RX11 297 M_X8_moveCreditIn 1 := ⟨rfl, List.mem_of_getElem? (i := 1130) (by decide +kernel), List.mem_of_getElem? (i := 1133) (by decide +kernel), List.mem_of_getElem? (i := 45) (by decide +kernel), by decide, by decide +kernel, by decide +kernel, by decide +kernel⟩
theorem lkv_X11_297 : LKv RX11 297 M_X8_moveCreditIn 1 := ⟨lk_X11_297, List.mem_of_getElem? (i := 1131) (by decide +kernel), List.mem_of_getElem? (i := 1132) (by decide +kernel)⟩
theorem at_X11_63_67 : (∀ w ∈ vx_atS RX11 67 "java/lang/IllegalArgumentException" ["java/lang/RuntimeException", "java/lang/Exception"], w ∈ lw_tbl ∧ pw w = true) ∧ (∀ w ∈ Cond.classLink RX11 63 "java/lang/IllegalArgumentException" :: Cond.initialized "java/lang/IllegalArgumentException" :: vx_atS RX11 67 "java/lang/IllegalArgumentException" ["java/lang/RuntimeException", "java/lang/Exception"], vx_ot w = true) := ⟨by decide +kernel, by decide +kernel⟩
theorem th_X11_63_65_67 : TH RX11 63 65 67 "java/lang/IllegalArgumentException" "credits or seats are out of range" ["java/lang/RuntimeException", "java/lang/Exception"] := ⟨by decide +kernel, by decide +kernel, List.mem_of_getElem? (i := 475) (by decide +kernel), List.mem_of_getElem? (i := 53) (by decide +kernel), by decide +kernel, at_X11_63_67.1, at_X11_63_67.2⟩
theorem at_X11_74_78 : (∀ w ∈ vx_atS RX11 78 "java/lang/IllegalStateException" ["java/lang/RuntimeException", "java/lang/Exception"], w ∈ lw_tbl ∧ pw w = true) ∧ (∀ w ∈ Cond.classLink RX11 74 "java/lang/IllegalStateException" :: Cond.initialized "java/lang/IllegalStateException" :: vx_atS RX11 78 "java/lang/IllegalStateException" ["java/lang/RuntimeException", "java/lang/Exception"], vx_ot w = true) := ⟨by decide +kernel, by decide +kernel⟩
theorem th_X11_74_76_78 : TH RX11 74 76 78 "java/lang/IllegalStateException" "there are as many courses as there can be" ["java/lang/RuntimeException", "java/lang/Exception"] := ⟨by decide +kernel, by decide +kernel, List.mem_of_getElem? (i := 547) (by decide +kernel), List.mem_of_getElem? (i := 54) (by decide +kernel), by decide +kernel, at_X11_74_78.1, at_X11_74_78.2⟩
theorem th_X11_74_91_78 : TH RX11 74 91 78 "java/lang/IllegalStateException" "there are as many students as there can be" ["java/lang/RuntimeException", "java/lang/Exception"] := ⟨by decide +kernel, by decide +kernel, List.mem_of_getElem? (i := 547) (by decide +kernel), List.mem_of_getElem? (i := 54) (by decide +kernel), by decide +kernel, at_X11_74_78.1, at_X11_74_78.2⟩
theorem th_X11_63_108_67 : TH RX11 63 108 67 "java/lang/IllegalArgumentException" "there is no such number of seats" ["java/lang/RuntimeException", "java/lang/Exception"] := ⟨by decide +kernel, by decide +kernel, List.mem_of_getElem? (i := 475) (by decide +kernel), List.mem_of_getElem? (i := 53) (by decide +kernel), by decide +kernel, at_X11_63_67.1, at_X11_63_67.2⟩
theorem th_X11_74_119_78 : TH RX11 74 119 78 "java/lang/IllegalStateException" "the course has too few seats" ["java/lang/RuntimeException", "java/lang/Exception"] := ⟨by decide +kernel, by decide +kernel, List.mem_of_getElem? (i := 547) (by decide +kernel), List.mem_of_getElem? (i := 54) (by decide +kernel), by decide +kernel, at_X11_74_78.1, at_X11_74_78.2⟩
theorem th_X11_63_139_67 : TH RX11 63 139 67 "java/lang/IllegalArgumentException" "the credits are out of range" ["java/lang/RuntimeException", "java/lang/Exception"] := ⟨by decide +kernel, by decide +kernel, List.mem_of_getElem? (i := 475) (by decide +kernel), List.mem_of_getElem? (i := 53) (by decide +kernel), by decide +kernel, at_X11_63_67.1, at_X11_63_67.2⟩
theorem th_X11_63_178_67 : TH RX11 63 178 67 "java/lang/IllegalArgumentException" "at least one day must pass" ["java/lang/RuntimeException", "java/lang/Exception"] := ⟨by decide +kernel, by decide +kernel, List.mem_of_getElem? (i := 475) (by decide +kernel), List.mem_of_getElem? (i := 53) (by decide +kernel), by decide +kernel, at_X11_63_67.1, at_X11_63_67.2⟩
theorem th_X11_74_183_78 : TH RX11 74 183 78 "java/lang/IllegalStateException" "the term has too few days" ["java/lang/RuntimeException", "java/lang/Exception"] := ⟨by decide +kernel, by decide +kernel, List.mem_of_getElem? (i := 547) (by decide +kernel), List.mem_of_getElem? (i := 54) (by decide +kernel), by decide +kernel, at_X11_74_78.1, at_X11_74_78.2⟩
theorem th_X11_74_195_78 : TH RX11 74 195 78 "java/lang/IllegalStateException" "the days of enrollment are over" ["java/lang/RuntimeException", "java/lang/Exception"] := ⟨by decide +kernel, by decide +kernel, List.mem_of_getElem? (i := 547) (by decide +kernel), List.mem_of_getElem? (i := 54) (by decide +kernel), by decide +kernel, at_X11_74_78.1, at_X11_74_78.2⟩
theorem th_X11_63_197_67 : TH RX11 63 197 67 "java/lang/IllegalArgumentException" "the student is enrolled or waiting" ["java/lang/RuntimeException", "java/lang/Exception"] := ⟨by decide +kernel, by decide +kernel, List.mem_of_getElem? (i := 475) (by decide +kernel), List.mem_of_getElem? (i := 53) (by decide +kernel), by decide +kernel, at_X11_63_67.1, at_X11_63_67.2⟩
theorem at_X11_199_203 : (∀ w ∈ vx_atS RX11 203 "java/lang/UnsupportedOperationException" ["java/lang/RuntimeException", "java/lang/Exception"], w ∈ lw_tbl ∧ pw w = true) ∧ (∀ w ∈ Cond.classLink RX11 199 "java/lang/UnsupportedOperationException" :: Cond.initialized "java/lang/UnsupportedOperationException" :: vx_atS RX11 203 "java/lang/UnsupportedOperationException" ["java/lang/RuntimeException", "java/lang/Exception"], vx_ot w = true) := ⟨by decide +kernel, by decide +kernel⟩
theorem th_X11_199_201_203 : TH RX11 199 201 203 "java/lang/UnsupportedOperationException" "the requisite or the attempts forbid it" ["java/lang/RuntimeException", "java/lang/Exception"] := ⟨by decide +kernel, by decide +kernel, List.mem_of_getElem? (i := 989) (by decide +kernel), List.mem_of_getElem? (i := 72) (by decide +kernel), by decide +kernel, at_X11_199_203.1, at_X11_199_203.2⟩
theorem at_X11_204_208 : (∀ w ∈ vx_atS RX11 208 "java/lang/ArithmeticException" ["java/lang/RuntimeException", "java/lang/Exception"], w ∈ lw_tbl ∧ pw w = true) ∧ (∀ w ∈ Cond.classLink RX11 204 "java/lang/ArithmeticException" :: Cond.initialized "java/lang/ArithmeticException" :: vx_atS RX11 208 "java/lang/ArithmeticException" ["java/lang/RuntimeException", "java/lang/Exception"], vx_ot w = true) := ⟨by decide +kernel, by decide +kernel⟩
theorem th_X11_204_206_208 : TH RX11 204 206 208 "java/lang/ArithmeticException" "the load would be too great" ["java/lang/RuntimeException", "java/lang/Exception"] := ⟨by decide +kernel, by decide +kernel, List.mem_of_getElem? (i := 1005) (by decide +kernel), List.mem_of_getElem? (i := 71) (by decide +kernel), by decide +kernel, at_X11_204_208.1, at_X11_204_208.2⟩
theorem th_X11_74_226_78 : TH RX11 74 226 78 "java/lang/IllegalStateException" "the days of drops are over" ["java/lang/RuntimeException", "java/lang/Exception"] := ⟨by decide +kernel, by decide +kernel, List.mem_of_getElem? (i := 547) (by decide +kernel), List.mem_of_getElem? (i := 54) (by decide +kernel), by decide +kernel, at_X11_74_78.1, at_X11_74_78.2⟩
theorem th_X11_74_271_78 : TH RX11 74 271 78 "java/lang/IllegalStateException" "the days of marks have not come" ["java/lang/RuntimeException", "java/lang/Exception"] := ⟨by decide +kernel, by decide +kernel, List.mem_of_getElem? (i := 547) (by decide +kernel), List.mem_of_getElem? (i := 54) (by decide +kernel), by decide +kernel, at_X11_74_78.1, at_X11_74_78.2⟩
theorem th_X11_63_287_67 : TH RX11 63 287 67 "java/lang/IllegalArgumentException" "the student has passed the course" ["java/lang/RuntimeException", "java/lang/Exception"] := ⟨by decide +kernel, by decide +kernel, List.mem_of_getElem? (i := 475) (by decide +kernel), List.mem_of_getElem? (i := 53) (by decide +kernel), by decide +kernel, at_X11_63_67.1, at_X11_63_67.2⟩
theorem th_X11_204_295_208 : TH RX11 204 295 208 "java/lang/ArithmeticException" "too many credits would be moved in" ["java/lang/RuntimeException", "java/lang/Exception"] := ⟨by decide +kernel, by decide +kernel, List.mem_of_getElem? (i := 1005) (by decide +kernel), List.mem_of_getElem? (i := 71) (by decide +kernel), by decide +kernel, at_X11_204_208.1, at_X11_204_208.2⟩
theorem th_X11_63_395_67 : TH RX11 63 395 67 "java/lang/IllegalArgumentException" "the major is out of range" ["java/lang/RuntimeException", "java/lang/Exception"] := ⟨by decide +kernel, by decide +kernel, List.mem_of_getElem? (i := 475) (by decide +kernel), List.mem_of_getElem? (i := 53) (by decide +kernel), by decide +kernel, at_X11_63_67.1, at_X11_63_67.2⟩
theorem th_X11_63_397_67 : TH RX11 63 397 67 "java/lang/IllegalArgumentException" "the mark is out of range" ["java/lang/RuntimeException", "java/lang/Exception"] := ⟨by decide +kernel, by decide +kernel, List.mem_of_getElem? (i := 475) (by decide +kernel), List.mem_of_getElem? (i := 53) (by decide +kernel), by decide +kernel, at_X11_63_67.1, at_X11_63_67.2⟩
theorem at_X11_337_341 : (∀ w ∈ vx_atS RX11 341 "java/lang/IndexOutOfBoundsException" ["java/lang/RuntimeException", "java/lang/Exception"], w ∈ lw_tbl ∧ pw w = true) ∧ (∀ w ∈ Cond.classLink RX11 337 "java/lang/IndexOutOfBoundsException" :: Cond.initialized "java/lang/IndexOutOfBoundsException" :: vx_atS RX11 341 "java/lang/IndexOutOfBoundsException" ["java/lang/RuntimeException", "java/lang/Exception"], vx_ot w = true) := ⟨by decide +kernel, by decide +kernel⟩
theorem th_X11_337_399_341 : TH RX11 337 399 341 "java/lang/IndexOutOfBoundsException" "there is no such student" ["java/lang/RuntimeException", "java/lang/Exception"] := ⟨by decide +kernel, by decide +kernel, List.mem_of_getElem? (i := 678) (by decide +kernel), List.mem_of_getElem? (i := 59) (by decide +kernel), by decide +kernel, at_X11_337_341.1, at_X11_337_341.2⟩
theorem th_X11_337_401_341 : TH RX11 337 401 341 "java/lang/IndexOutOfBoundsException" "there is no such course" ["java/lang/RuntimeException", "java/lang/Exception"] := ⟨by decide +kernel, by decide +kernel, List.mem_of_getElem? (i := 678) (by decide +kernel), List.mem_of_getElem? (i := 59) (by decide +kernel), by decide +kernel, at_X11_337_341.1, at_X11_337_341.2⟩
theorem th_X11_74_408_78 : TH RX11 74 408 78 "java/lang/IllegalStateException" "there are too many formulas, or this one is too deep" ["java/lang/RuntimeException", "java/lang/Exception"] := ⟨by decide +kernel, by decide +kernel, List.mem_of_getElem? (i := 547) (by decide +kernel), List.mem_of_getElem? (i := 54) (by decide +kernel), by decide +kernel, at_X11_74_78.1, at_X11_74_78.2⟩
end
section
section EVM
variable {g : Gt} {M M2 : Mt} {d d1 pc : Nat} {ls : List (Option Value)} {st st0 : List Value} {h : AH} {mc ms mc1 ms1 : Nat} {Q Q1 : RT → AH → Prop}
theorem ra_same {s : State} {ki : Nat} {cA : ClassId} {ty : FieldType} (hC : CTX g s) (hk : (gT g)[ki]? = some (gA g ki, ty)) (hK : va_K (gD g) vwCl (gT g ++ [(cA, ty)]) s) : cA = gA g ki := by
  have e1 := (hC.1.1.2 ki _ hk).2
  have e2 := (hK.2 (gT g).length (cA, ty) (by simp)).2
  cases ty with
  | object C =>
    obtain ⟨_, _, _, _, _, h1⟩ := e1
    obtain ⟨_, _, _, _, _, h2⟩ := e2
    exact Option.some.inj (h2.symm.trans h1)
  | _ => exact Option.some.inj (Eq.trans (Eq.symm e2) e1)
theorem ev_newarray {z : Int32} {N' ki : Nat} {at_ : ArrayType} {ty : FieldType} {a0 : vp_A} (n : Nat) (hd : decode (mC M) pc = .ok (.newarray at_, 2)) (hty : newarray.typeOf at_ = ty) (hki : (gT g)[ki]? = some (gA g ki, ty)) (hw : Cond.arrayClass ty ∈ lw_tbl) (ha : ∀ cA : ClassId, vp_cell cA a0 = arrV cA N' (fun _ => defaultValue ty)) (hz : ¬ z < 0) (hN : z.toNatClampNeg = N') (hsz : N' * componentBytes ty ≤ 536870912) (hn : pc + 2 = n) (kk : ∀ q, h q = none → gB g ≤ q → Ev g M d n ls (.ref q :: st) (hup h q (.inl (ki, a0))) mc ms Q) : Ev g M d pc ls (.int z :: st) h (mc + 1) (ms + N') Q := by
  subst hn
  intro p e s m args below meth c H locs cells slots lsA tc ts hM hS hL h1 h2
  have hC := hM.2.2.2.2.2.2.2.2
  refine va_newa (D := gD g) (cl := vwCl) (tys := gT g) hM.1 hM.2.1 (by rw [hty]; exact AW.at hC hw rfl) hty hC.1.1 (wsH_P hS.1) (wsH_D g h H.size) hS.2 (fun q hq => Nat.le_trans hC.2.1 hq) ha hz hN hsz (show cells + 1 ≤ tc by omega) (show slots + N' ≤ ts by omega) hd (fun q cA H1 hK1 hP1 hD1 hS1 => ?_)
  have e := ra_same hC hki hK1
  subst e
  obtain ⟨g1, g2, g3⟩ := hS.1.new (c := .inl (ki, a0)) hC.2.1 hS.2 hS1 rfl hP1 hD1
  exact kk q g1 g2 p e s m args below meth c H1 locs (cells + 1) (slots + N') lsA tc ts hM ⟨g3, hS1⟩ hL (by omega) (by omega)
theorem ev_newobjs {z : Int32} {N' index : Nat} (n : Nat) (hd : decode (mC M) pc = .ok (.anewarray index, 3)) (hl : Cond.classLink (mY M).cls index "java/lang/Object" ∈ lw_tbl) (hz : ¬ z < 0) (hN : z.toNatClampNeg = N') (hsz : N' * 4 ≤ 536870912) (hn : pc + 3 = n) (kk : ∀ q, h q = none → gB g ≤ q → Ev g M d n ls (.ref q :: st) (hup h q (.inl (3, N', .inr (.inr (.inr (.inr (fun _ => none))))))) mc ms Q) : Ev g M d pc ls (.int z :: st) h (mc + 1) (ms + N') Q := by
  subst hn
  intro p e s m args below meth c H locs cells slots lsA tc ts hM hS hL h1 h2
  have hC := hM.2.2.2.2.2.2.2.2
  refine va_newq (D := gD g) (cl := vwCl) (tys := gT g) hM.1 hM.2.1 hM.2.2.2.1 (AW.at hC hl rfl) hC.1.2.2.2.2.2.2.2.2.2.2.1 hC.1.1 (wsH_P hS.1) (wsH_D g h H.size) hS.2 (fun q hq => Nat.le_trans hC.2.1 hq) hz hN hsz (show cells + 1 ≤ tc by omega) (show slots + N' ≤ ts by omega) hd (fun q cA H1 hK1 hP1 hD1 hS1 => ?_)
  have e := ra_same (ki := 3) hC rfl hK1
  subst e
  obtain ⟨g1, g2, g3⟩ := hS.1.new (c := .inl (3, N', .inr (.inr (.inr (.inr (fun _ => none)))))) hC.2.1 hS.2 hS1 rfl hP1 hD1
  exact kk q g1 g2 p e s m args below meth c H1 locs (cells + 1) (slots + N') lsA tc ts hM ⟨g3, hS1⟩ hL (by omega) (by omega)
/-- a cast to the object's own class -/
theorem ev_castS {index a ci : Nat} {fs : List Value} {nm : String} (n : Nat) (hd : decode (mC M) pc = .ok (.checkcast index, 3)) (hl : Cond.classLink (mY M).cls index nm ∈ lw_tbl) (ha : h a = some (.inr (ci, fs))) (hci : vwCl[ci]?.map (·.1) = some nm) (hn : pc + 3 = n) (kk : Ev g M d n ls (.ref a :: st) h mc ms Q) : Ev g M d pc ls (.ref a :: st) h mc ms Q := by
  subst hn
  intro p e s m args below meth c H locs cells slots lsA tc ts hM hS hL h1 h2
  have hC := hM.2.2.2.2.2.2.2.2
  obtain ⟨q, hq1, hq2⟩ := Option.map_eq_some_iff.mp hci
  obtain ⟨C, T, N⟩ := q
  have hq2 : C = nm := hq2
  subst hq2
  exact va_castS hM.1 hM.2.1 hM.2.2.2.1 (AW.at hC hl rfl) (hC.1.1.1 ci _ hq1).2 (recv_at hC hS ha hq1) hd (kk p e s m args below meth c H locs cells slots lsA tc ts hM hS hL h1 h2)
/-- a cast to a class above it -/
theorem ev_castY {index a ci : Nat} {fs : List Value} {nm C : String} (n : Nat) (hd : decode (mC M) pc = .ok (.checkcast index, 3)) (hl : Cond.classLink (mY M).cls index nm ∈ lw_tbl) (hca : Cond.castable C nm ∈ lw_tbl) (ha : h a = some (.inr (ci, fs))) (hci : vwCl[ci]?.map (·.1) = some C) (hn : pc + 3 = n) (kk : Ev g M d n ls (.ref a :: st) h mc ms Q) : Ev g M d pc ls (.ref a :: st) h mc ms Q := by
  subst hn
  intro p e s m args below meth c H locs cells slots lsA tc ts hM hS hL h1 h2
  have hC := hM.2.2.2.2.2.2.2.2
  obtain ⟨q, hq1, hq2⟩ := Option.map_eq_some_iff.mp hci
  obtain ⟨C9, T, N⟩ := q
  have hq2 : C9 = C := hq2
  subst hq2
  exact va_castY hM.1 hM.2.1 hM.2.2.2.1 (AW.at hC hl rfl) (AW.at hC hca rfl) (recv_at hC hS ha hq1) hd (kk p e s m args below meth c H locs cells slots lsA tc ts hM hS hL h1 h2)
theorem ev_objInit {index a : Nat} (n : Nat) (hd : decode (mC M) pc = .ok (.invokespecial index, 3)) (hl : Cond.methodLink (mY M).cls index Lib.objectInit ∈ lw_tbl) (hi : Cond.instanceMethod Lib.objectInit ∈ lw_tbl) (hc : Cond.code Lib.objectInit ⟨#[0xb1]⟩ 1 none ∈ lw_tbl) (hdd : 1 ≤ d) (hcat : (st.map fun v => v.category).sum + 14 ≤ 46 * d) (hn : pc + 3 = n) (kk : Ev g M d n ls st h mc ms Q) : Ev g M d pc ls (.ref a :: st) h mc ms Q := by
  subst hn
  intro p e s m args below meth c H locs cells slots lsA tc ts hM hS hL h1 h2
  have hC := hM.2.2.2.2.2.2.2.2
  refine W.objInit hM.1 hM.2.1 hM.2.2.2.1 (AW.at hC hl rfl) (AW.at hC hi rfl) (AW.at hC hc rfl) rfl (hL.1.trans hM.2.2.2.2.1.symm) rfl hd hdd (by show _ ≤ 46 * d; simp [F0]; omega) ?_
  exact kk p e s m args below meth c H locs cells slots lsA tc ts hM hS hL h1 h2
theorem ev_mmax {index : Nat} {x y : Int32} (n : Nat) (hd : decode (mC M) pc = .ok (.invokestatic index, 3)) (hl : Cond.methodLink (mY M).cls index Lib.Math.max.name ∈ lw_tbl) (hw : Cond.static Lib.Math.max.name ∈ lw_tbl ∧ Cond.initialized "java/lang/Math" ∈ lw_tbl ∧ Cond.code Lib.Math.max.name Lib.Math.max.code 2 (some .int) ∈ lw_tbl) (hdd : 1 ≤ d) (hcat : (st.map fun v => v.category).sum + 13 ≤ 46 * d) (hn : pc + 3 = n) (kk : Ev g M d n ls (.int (if x < y then y else x) :: st) h mc ms Q) : Ev g M d pc ls (.int y :: .int x :: st) h mc ms Q := by
  subst hn
  intro p e s m args below meth c H locs cells slots lsA tc ts hM hS hL h1 h2
  have hC := hM.2.2.2.2.2.2.2.2
  exact va_mmax hM.1 hM.2.1 (hM.2.2.2.2.1.trans hL.1.symm) hM.2.2.2.1 (AW.at hC hl rfl) (AW.at hC hw.1 rfl) (AW.at hC hw.2.1 rfl) (AW.at hC hw.2.2 rfl) hdd hcat (show cells ≤ tc by omega) (show slots ≤ ts by omega) hd (kk p e s m args below meth c H locs cells slots lsA tc ts hM hS hL h1 h2)
theorem ev_mmin {index : Nat} {x y : Int32} (n : Nat) (hd : decode (mC M) pc = .ok (.invokestatic index, 3)) (hl : Cond.methodLink (mY M).cls index Lib.Math.min.name ∈ lw_tbl) (hw : Cond.static Lib.Math.min.name ∈ lw_tbl ∧ Cond.initialized "java/lang/Math" ∈ lw_tbl ∧ Cond.code Lib.Math.min.name Lib.Math.min.code 2 (some .int) ∈ lw_tbl) (hdd : 1 ≤ d) (hcat : (st.map fun v => v.category).sum + 13 ≤ 46 * d) (hn : pc + 3 = n) (kk : Ev g M d n ls (.int (if y < x then y else x) :: st) h mc ms Q) : Ev g M d pc ls (.int y :: .int x :: st) h mc ms Q := by
  subst hn
  intro p e s m args below meth c H locs cells slots lsA tc ts hM hS hL h1 h2
  have hC := hM.2.2.2.2.2.2.2.2
  exact va_mmin hM.1 hM.2.1 (hM.2.2.2.2.1.trans hL.1.symm) hM.2.2.2.1 (AW.at hC hl rfl) (AW.at hC hw.1 rfl) (AW.at hC hw.2.1 rfl) (AW.at hC hw.2.2 rfl) hdd hcat (show cells ≤ tc by omega) (show slots ≤ ts by omega) hd (kk p e s m args below meth c H locs cells slots lsA tc ts hM hS hL h1 h2)
/-- the list's empty array: read as a static, and its length -/
theorem ev_getEm {index : Nat} (n : Nat) (hd : decode (mC M) pc = .ok (.getstatic index, 3)) (hl : Cond.fieldLink (mY M).cls index "java/util/ArrayList" "DEFAULTCAPACITY_EMPTY_ELEMENTDATA" "[Ljava/lang/Object;" ∈ lw_tbl) (hn : pc + 3 = n) (kk : Ev g M d n ls (.ref (gE g) :: st) h mc ms Q) : Ev g M d pc ls st h mc ms Q := by
  subst hn
  intro p e s m args below meth c H locs cells slots lsA tc ts hM hS hL h1 h2
  have hC := hM.2.2.2.2.2.2.2.2
  exact va_gets hM.1 hM.2.1 hC.1.2.2.2.2.2.2.1 hS.2 hM.2.2.2.1 (AW.at hC hl rfl) (fun _ z => z) hd (kk p e s m args below meth c H locs cells slots lsA tc ts hM hS hL h1 h2)
theorem ev_alenEm (n : Nat) (hd : decode (mC M) pc = .ok (.arraylength, 1)) (hn : pc + 1 = n) (kk : Ev g M d n ls (.int 0 :: st) h mc ms Q) : Ev g M d pc ls (.ref (gE g) :: st) h mc ms Q := by
  subst hn
  intro p e s m args below meth c H locs cells slots lsA tc ts hM hS hL h1 h2
  have hC := hM.2.2.2.2.2.2.2.2
  obtain ⟨cell, t1, t2, t3, t4, t5, t6, t7⟩ := hC.1.2.2.2.2.2.2.2.1
  exact W.alen (n := 0) hM.1 hM.2.1 (by rw [hS.2.2.1 _ (Array.getElem?_eq_some_iff.mp t1).1 t7]; exact t1) t2 t5 rfl rfl hd (kk p e s m args below meth c H locs cells slots lsA tc ts hM hS hL h1 h2)
/-- references out of arrays, into arrays -/
theorem ev_aaloadO {a len : Nat} {f : Nat → Option Nat} {i : Int32} (n : Nat) (hd : decode (mC M) pc = .ok (.aaload, 1)) (ha : h a = some (.inl (3, len, .inr (.inr (.inr (.inr f)))))) (hin : vp_in i len) (hn : pc + 1 = n) (kk : Ev g M d n ls (va_rf (f i.toNatClampNeg) :: st) h mc ms Q) : Ev g M d pc ls (.int i :: .ref a :: st) h mc ms Q := by
  subst hn
  intro p e s m args below meth c H locs cells slots lsA tc ts hM hS hL h1 h2
  exact va_aldq hM.1 hM.2.1 hM.2.2.2.2.2.2.2.2.1.1 (hS.1.one ha) 0 3 rfl rfl hin hd (kk p e s m args below meth c H locs cells slots lsA tc ts hM hS hL h1 h2)
theorem ev_aaloadR {a len : Nat} {f : Nat → Option Nat} {i : Int32} (n : Nat) (hd : decode (mC M) pc = .ok (.aaload, 1)) (ha : h a = some (.inl (4, len, .inr (.inr (.inr (.inr f)))))) (hin : vp_in i len) (hn : pc + 1 = n) (kk : Ev g M d n ls (va_rf (f i.toNatClampNeg) :: st) h mc ms Q) : Ev g M d pc ls (.int i :: .ref a :: st) h mc ms Q := by
  subst hn
  intro p e s m args below meth c H locs cells slots lsA tc ts hM hS hL h1 h2
  have hlt : i.toNatClampNeg < len := Nat.not_le.mp fun q => hin (Or.inr q)
  exact W.aald (v := va_rf (f i.toNatClampNeg)) (ty := .array .int) hM.1 hM.2.1 (hS.1.one ha 0 _ rfl) ((hM.2.2.2.2.2.2.2.2.1.1.2 4 _ rfl).1 len (fun j => va_rf (f j))) rfl (fun q => by cases q) (by show ¬ (i < 0 ∨ (arrV _ _ _).slots.size ≤ _); rw [arrV_size]; exact hin) (by show (arrV _ _ _).slots[_]? = _; rw [arrV_read _ _ hlt]) rfl rfl hd (kk p e s m args below meth c H locs cells slots lsA tc ts hM hS hL h1 h2)
theorem any_at {v ci : Nat} {vs : List Value} {C : String} {s : State} {H : Heap} {locs : List Loc} (hC : CTX g s) (hS : SX g h s H locs) (hv : h v = some (.inr (ci, vs))) (hci : vwCl[ci]?.map (·.1) = some C) (hca : Cond.castable C "java/lang/Object" ∈ lw_tbl) : va_Any "java/lang/Object" s H v := by
  obtain ⟨q, hq1, hq2⟩ := Option.map_eq_some_iff.mp hci
  exact va_rAny hC.1.1 (hS.1.one hv) (q0 := 0) rfl hq1 (fun comp c0 e1 e2 => by rw [hq2] at e2; exact vb_asgC (C := C) (E := "java/lang/Object") (AW.at hC hca rfl) comp c0 e1 e2)
theorem ev_aastoreO {a len v ci : Nat} {vs : List Value} {f : Nat → Option Nat} {i : Int32} {C : String} (n : Nat) (hd : decode (mC M) pc = .ok (.aastore, 1)) (ha : h a = some (.inl (3, len, .inr (.inr (.inr (.inr f)))))) (hb : gB g ≤ a) (hv : h v = some (.inr (ci, vs))) (hci : vwCl[ci]?.map (·.1) = some C) (hca : Cond.castable C "java/lang/Object" ∈ lw_tbl) (hin : vp_in i len) (hn : pc + 1 = n) (kk : Ev g M d n ls st (hup h a (.inl (3, len, .inr (.inr (.inr (.inr (va_up f i.toNatClampNeg (some v)))))))) mc ms Q) : Ev g M d pc ls (.ref v :: .int i :: .ref a :: st) h mc ms Q := by
  subst hn
  intro p e s m args below meth c H locs cells slots lsA tc ts hM hS hL h1 h2
  have hC := hM.2.2.2.2.2.2.2.2
  obtain ⟨q0, hq0⟩ := List.getElem?_of_mem (wsH_in hS.1 ha hb)
  refine va_astqM hM.1 hM.2.1 hC.1.1 (wsH_P hS.1) (wsH_D g h H.size) hS.2 q0 3 hq0 rfl (any_at hC hS hv hci hca) hin hd (fun H1 locs1 hP1 hD1 hS1 => ?_)
  exact kk p e s m args below meth c H1 locs1 cells slots lsA tc ts hM ⟨hS.1.set hC.2.1 hS.2 hS1 hq0 rfl hP1, hS1⟩ hL h1 h2
theorem ev_aastoreN {a len : Nat} {f : Nat → Option Nat} {i : Int32} (n : Nat) (hd : decode (mC M) pc = .ok (.aastore, 1)) (ha : h a = some (.inl (3, len, .inr (.inr (.inr (.inr f)))))) (hb : gB g ≤ a) (hin : vp_in i len) (hn : pc + 1 = n) (kk : Ev g M d n ls st (hup h a (.inl (3, len, .inr (.inr (.inr (.inr (va_up f i.toNatClampNeg none))))))) mc ms Q) : Ev g M d pc ls (.null :: .int i :: .ref a :: st) h mc ms Q := by
  subst hn
  intro p e s m args below meth c H locs cells slots lsA tc ts hM hS hL h1 h2
  have hC := hM.2.2.2.2.2.2.2.2
  obtain ⟨q0, hq0⟩ := List.getElem?_of_mem (wsH_in hS.1 ha hb)
  refine va_astqN hM.1 hM.2.1 hC.1.1 (wsH_P hS.1) (wsH_D g h H.size) hS.2 q0 3 hq0 rfl hin hd (fun H1 locs1 hP1 hD1 hS1 => ?_)
  exact kk p e s m args below meth c H1 locs1 cells slots lsA tc ts hM ⟨hS.1.set hC.2.1 hS.2 hS1 hq0 rfl hP1, hS1⟩ hL h1 h2
end EVM
section EVN
variable {g : Gt} {M M2 : Mt} {d d1 pc : Nat} {ls : List (Option Value)} {st st0 : List Value} {h : AH} {mc ms mc1 ms1 : Nat} {Q Q1 : RT → AH → Prop}
theorem ev_null (n : Nat) (hd : decode (mC M) pc = .ok (.aconst_null, 1)) (hn : pc + 1 = n) (kk : Ev g M d n ls (.null :: st) h mc ms Q) : Ev g M d pc ls st h mc ms Q := by
  subst hn
  intro p e s m args below meth c H locs cells slots lsA tc ts hM hS hL h1 h2
  exact lv_null hM.1 hM.2.1 hd (kk p e s m args below meth c H locs cells slots lsA tc ts hM hS hL h1 h2)
def LKn (own : String) (index : Nat) (M2 : Mt) (n : Nat) (host : String) : Prop := mH M2 = [] ∧ Cond.methodLinkNest own index (mY M2) host ∈ lw_tbl ∧ Cond.code (mY M2) (mC M2) (mL M2) (mR M2) ∈ lw_tbl ∧ Cond.initialized (mY M2).cls ∈ lw_tbl ∧ mL M2 ≤ 27 ∧
  ((mY M2).cls ≠ "java/lang/invoke/MethodHandle" ∧ (mY M2).cls ≠ "java/lang/invoke/VarHandle" ∧ (parseMethodDescriptor (mY M2).desc).map (fun d => d.parameters.length) = some n)
theorem lk_CN {own host : String} {index n : Nat} {s : State} {args : Array Value} {R : Room} (hC : CTX g s) (L : LKn own index M2 n host) (hR : d1 + 1 ≤ R.frames ∧ 8 + (mL M2 + 11) + 46 * d1 ≤ R.locals) : va_CN R s args own index (mY M2) host (mC M2) (mL M2) (mR M2) (mWs M2) (rmD d1 mc1 ms1) mc1 ms1 n := by
  obtain ⟨l1, l2, l3, l4, l5, l6⟩ := L
  have e := mW_code l1
  refine ⟨⟨rfl, rfl, hR.1, hR.2, ?_, by rw [e]; exact List.mem_cons_self⟩, AW.at hC l3 rfl, AW.at hC l4 rfl, ⟨l6.1, l6.2.1⟩, fun sig hs => ?_, AW.at hC l2 rfl⟩
  · intro w hw a' U hW
    rw [e] at hw
    rw [List.mem_singleton.mp hw]
    exact word_at hW (good_of_word rfl) (AW.at (A := args) hC l3 rfl)
  · have h2 := l6.2.2
    rw [hs] at h2
    exact (Option.some.inj h2).symm
theorem ev_callSN {index k : Nat} {host : String} {As : List Value} (n : Nat) (L : LKn (mY M).cls index M2 k host) (hst0 : Cond.static (mY M2) ∈ lw_tbl) (hc : Cn g M2 d1 As h mc1 ms1 Q1) (hd1 : d1 < d) (hk : As.length = k) (hst : st0 = As.reverse ++ st) (hcat : (st.map fun v => v.category).sum ≤ 8) (hd : decode (mC M) pc = .ok (.invokestatic index, 3)) (hn : pc + 3 = n)
    (kr : ∀ v h', Q1 (.inl v) h' → Ev g M d n ls (v.toList ++ st) h' mc ms Q) (kx : ∀ E h', Q1 (.inr E) h' → Xv g M d pc ls E h' mc ms Q) : Ev g M d pc ls st0 h (mc1 + mc) (ms1 + ms) Q := by
  subst hst
  refine ev_of_vrun (As := As.toArray) n (fun p e s m args below meth c H locs cells slots lsA tc ts hM hS hL h1 h2 => ?_) hn kr kx
  have hC := hM.2.2.2.2.2.2.2.2
  exact vrun_of_run (va_runSN (Ts := [Cond.code (mY M2) (mC M2) (mL M2) (mR M2)]) (n := k) ⟨hM.1, hM.2.1, hM.2.2.2.2.1, hM.2.2.2.1, fun w hw => by rw [List.mem_singleton.mp hw]; exact AW.at hC L.2.2.1 rfl⟩ hc ⟨lk_CN hC L (rm_le hd1 L.2.2.2.2.1 tc ts), AW.at hC hst0 rfl, trivial⟩ ⟨ct_blind, fun U hU hW => ct_at hC hS hU hW⟩ rfl hk hL.1 rfl (lv_room hcat) hd ⟨by show cells + mc1 ≤ tc; omega, by show slots + ms1 ≤ ts; omega⟩)
theorem ev_callIN {index b k : Nat} {host : String} {As : List Value} (n : Nat) (L : LKn (mY M).cls index M2 k host) (hin : Cond.instanceMethod (mY M2) ∈ lw_tbl ∧ (mY M2).name = "<init>" ∧ mR M2 = none) (hc : Cn g M2 d1 (.ref b :: As) h mc1 ms1 Q1) (hd1 : d1 < d) (hk : As.length = k) (hst : st0 = As.reverse ++ .ref b :: st) (hcat : (st.map fun v => v.category).sum ≤ 8) (hd : decode (mC M) pc = .ok (.invokespecial index, 3)) (hn : pc + 3 = n)
    (kr : ∀ v h', Q1 (.inl v) h' → Ev g M d n ls (v.toList ++ st) h' mc ms Q) (kx : ∀ E h', Q1 (.inr E) h' → Xv g M d pc ls E h' mc ms Q) : Ev g M d pc ls st0 h (mc1 + mc) (ms1 + ms) Q := by
  subst hst
  refine ev_of_vrun (As := (Value.ref b :: As).toArray) n (fun p e s m args below meth c H locs cells slots lsA tc ts hM hS hL h1 h2 => ?_) hn kr kx
  have hC := hM.2.2.2.2.2.2.2.2
  have hcb := lk_CN (args := args) (R := rmD d tc ts) (mc1 := mc1) (ms1 := ms1) hC L (rm_le hd1 L.2.2.2.2.1 tc ts)
  rw [hin.2.2] at hcb
  exact vrun_of_run (va_runIN (Ts := [Cond.code (mY M2) (mC M2) (mL M2) (mR M2)]) (n := k) ⟨hM.1, hM.2.1, hM.2.2.2.2.1, hM.2.2.2.1, fun w hw => by rw [List.mem_singleton.mp hw]; exact AW.at hC L.2.2.1 rfl⟩ hc ⟨hcb, hin.2.1, AW.at hC hin.1 rfl⟩ ⟨ct_blind, fun U hU hW => ct_at hC hS hU hW⟩ rfl hk hL.1 rfl (lv_room hcat) hd ⟨by show cells + mc1 ≤ tc; omega, by show slots + ms1 ≤ ts; omega⟩)
/-- a call of an abstract or inherited method x, which the receiver's class C answers by M2 -/
def LKu (own C : String) (index : Nat) (x : MethodName) (M2 : Mt) (n : Nat) : Prop := mH M2 = [] ∧ Cond.methodLink own index x ∈ lw_tbl ∧ Cond.code (mY M2) (mC M2) (mL M2) (mR M2) ∈ lw_tbl ∧ Cond.initialized (mY M2).cls ∈ lw_tbl ∧ mL M2 ≤ 27 ∧
  (x.cls ≠ "java/lang/invoke/MethodHandle" ∧ x.cls ≠ "java/lang/invoke/VarHandle" ∧ (parseMethodDescriptor x.desc).map (fun d => d.parameters.length) = some n) ∧ Cond.sameMethod x.cls x.cls x.name x.desc ∈ lw_tbl ∧ Cond.selects C x (mY M2) ∈ lw_tbl ∧ Cond.instanceMethod (mY M2) ∈ lw_tbl
theorem ev_callU {index b k ci : Nat} {C : String} {x : MethodName} {As fs : List Value} (n : Nat) (L : LKu (mY M).cls C index x M2 k) (hdecl : ∀ s : State, CTX g s → va_Decl s x) (hc : Cn g M2 d1 (.ref b :: As) h mc1 ms1 Q1) (hd1 : d1 < d) (hb : h b = some (.inr (ci, fs))) (hci : vwCl[ci]?.map (·.1) = some C) (hk : As.length = k) (hst : st0 = As.reverse ++ .ref b :: st) (hcat : (st.map fun v => v.category).sum ≤ 8) (hd : decode (mC M) pc = .ok (.invokevirtual index, 3)) (hn : pc + 3 = n)
    (kr : ∀ v h', Q1 (.inl v) h' → Ev g M d n ls (v.toList ++ st) h' mc ms Q) (kx : ∀ E h', Q1 (.inr E) h' → Xv g M d pc ls E h' mc ms Q) : Ev g M d pc ls st0 h (mc1 + mc) (ms1 + ms) Q := by
  subst hst
  refine ev_of_vrun (As := (Value.ref b :: As).toArray) n (fun p e s m args below meth c H locs cells slots lsA tc ts hM hS hL h1 h2 => ?_) hn kr kx
  have hC := hM.2.2.2.2.2.2.2.2
  obtain ⟨q, hq1, hq2⟩ := Option.map_eq_some_iff.mp hci
  obtain ⟨C9, T, N⟩ := q
  have hq2 : C9 = C := hq2
  subst hq2
  obtain ⟨l1, l2, l3, l4, l5, l6, l7, l8, l9⟩ := L
  have e := mW_code l1
  have hR := rm_le hd1 l5 tc ts
  have cw : va_CU (rmD d tc ts) s args (mY M).cls C9 x.cls index x (mY M2) (mC M2) (mL M2) (mR M2) (mWs M2) (rmD d1 mc1 ms1) mc1 ms1 k := by
    refine ⟨⟨rfl, rfl, hR.1, hR.2, ?_, by rw [e]; exact List.mem_cons_self⟩, AW.at hC l3 rfl, AW.at hC l4 rfl, ⟨l6.1, l6.2.1⟩, fun sig hs => ?_, AW.at hC l2 rfl, AW.at hC l7 rfl, hdecl s hC, AW.at hC l8 rfl, AW.at hC l9 rfl⟩
    · intro w hw a' U hW
      rw [e] at hw
      rw [List.mem_singleton.mp hw]
      exact word_at hW (good_of_word rfl) (AW.at (A := args) hC l3 rfl)
    · have h2 := l6.2.2
      rw [hs] at h2
      exact (Option.some.inj h2).symm
  exact vrun_of_run (va_runU (Ts := [Cond.code (mY M2) (mC M2) (mL M2) (mR M2)]) (C := C9) (owner := x.cls) (n := k) ⟨hM.1, hM.2.1, hM.2.2.2.2.1, hM.2.2.2.1, fun w hw => by rw [List.mem_singleton.mp hw]; exact AW.at hC l3 rfl⟩ hc cw ⟨ct_blind, recv_at hC hS hb hq1, fun U hU hW => ct_at hC hS hU hW⟩ rfl hk hL.1 rfl (lv_room hcat) hd ⟨by show cells + mc1 ≤ tc; omega, by show slots + ms1 ≤ ts; omega⟩)
/-- System.arraycopy: ints or booleans; references -/
abbrev ACw : Prop := Cond.native arraycopyName ∈ lw_tbl ∧ Cond.static arraycopyName ∈ lw_tbl ∧ Cond.initialized "java/lang/System" ∈ lw_tbl
theorem ev_copyI {index a0 a n0 n1 ki : Nat} {f f1 : Nat → Int32} {sp dp z : Int32} {ty : FieldType} (n : Nat) (hd : decode (mC M) pc = .ok (.invokestatic index, 3)) (hl : Cond.methodLink (mY M).cls index arraycopyName ∈ lw_tbl) (hw : ACw) (hki : (gT g)[ki]? = some (gA g ki, ty)) (hprim : refKind ty = false) (ha0 : h a0 = some (.inl (ki, n0, .inl f))) (ha : h a = some (.inl (ki, n1, .inl f1))) (hb0 : gB g ≤ a0) (hb : gB g ≤ a)
    (h1 : ¬ sp < 0) (h2 : ¬ dp < 0) (h3 : ¬ z < 0) (h4 : sp.toNatClampNeg + z.toNatClampNeg ≤ n0) (h5 : dp.toNatClampNeg + z.toNatClampNeg ≤ n1) (hfit : ∀ i, i < z.toNatClampNeg → fits ty (.int (f (sp.toNatClampNeg + i))) = true) (hdd : 4 ≤ d) (hcat : (st.map fun v => v.category).sum ≤ 8) (hn : pc + 3 = n)
    (kk : Ev g M d n ls st (hup h a (.inl (ki, n1, .inl (va_cpy f f1 sp.toNatClampNeg dp.toNatClampNeg z.toNatClampNeg)))) mc ms Q) : Ev g M d pc ls (.int z :: .int dp :: .ref a :: .int sp :: .ref a0 :: st) h mc ms Q := by
  subst hn
  intro p e s m args below meth c H locs cells slots lsA tc ts hM hS hL h6 h7
  have hC := hM.2.2.2.2.2.2.2.2
  obtain ⟨q0, hq0⟩ := List.getElem?_of_mem (wsH_in hS.1 ha0 hb0)
  obtain ⟨q1, hq1⟩ := List.getElem?_of_mem (wsH_in hS.1 ha hb)
  refine va_copyi hM.1 hM.2.1 (hM.2.2.2.2.1.trans hL.1.symm) hM.2.2.2.1 (AW.at hC hl rfl) (AW.at hC hw.1 rfl) (AW.at hC hw.2.1 rfl) (AW.at hC hw.2.2 rfl) hC.1.1 (wsH_P hS.1) (wsH_D g h H.size) hS.2 q0 q1 ki ki hq0 hq1 hki hki hprim h1 h2 h3 h4 h5 hfit (show 1 ≤ d by omega) (Nat.le_trans (Nat.add_le_add_right hcat _) (show 8 + (nativeFrameWords "java/lang/System" "arraycopy" 5 + 11) ≤ 46 * d from Nat.le_trans (by decide +kernel : 8 + (nativeFrameWords "java/lang/System" "arraycopy" 5 + 11) ≤ 46 * 4) (Nat.mul_le_mul_left 46 hdd))) hd ?_
  intro H1 locs1 hP1 hD1 hS1
  exact kk p e s m args below meth c H1 locs1 cells slots lsA tc ts hM ⟨hS.1.set hC.2.1 hS.2 hS1 hq1 rfl hP1, hS1⟩ hL h6 h7
theorem ev_copyO {index a0 a n0 n1 : Nat} {f f1 : Nat → Option Nat} {sp dp z : Int32} (n : Nat) (hd : decode (mC M) pc = .ok (.invokestatic index, 3)) (hl : Cond.methodLink (mY M).cls index arraycopyName ∈ lw_tbl) (hw : ACw) (ha0 : h a0 = some (.inl (3, n0, .inr (.inr (.inr (.inr f)))))) (ha : h a = some (.inl (3, n1, .inr (.inr (.inr (.inr f1)))))) (hb0 : gB g ≤ a0) (hb : gB g ≤ a)
    (h1 : ¬ sp < 0) (h2 : ¬ dp < 0) (h3 : ¬ z < 0) (h4 : sp.toNatClampNeg + z.toNatClampNeg ≤ n0) (h5 : dp.toNatClampNeg + z.toNatClampNeg ≤ n1) (hel : ∀ i : Nat, i < z.toNatClampNeg → ∀ y : Nat, f (sp.toNatClampNeg + i) = some y → ∃ ci vs C, h y = some (.inr (ci, vs)) ∧ vwCl[ci]?.map (·.1) = some C ∧ Cond.castable C "java/lang/Object" ∈ lw_tbl) (hdd : 4 ≤ d) (hcat : (st.map fun v => v.category).sum ≤ 8) (hn : pc + 3 = n)
    (kk : Ev g M d n ls st (hup h a (.inl (3, n1, .inr (.inr (.inr (.inr (va_cpy f f1 sp.toNatClampNeg dp.toNatClampNeg z.toNatClampNeg))))))) mc ms Q) : Ev g M d pc ls (.int z :: .int dp :: .ref a :: .int sp :: .ref a0 :: st) h mc ms Q := by
  subst hn
  intro p e s m args below meth c H locs cells slots lsA tc ts hM hS hL h6 h7
  have hC := hM.2.2.2.2.2.2.2.2
  obtain ⟨q0, hq0⟩ := List.getElem?_of_mem (wsH_in hS.1 ha0 hb0)
  obtain ⟨q1, hq1⟩ := List.getElem?_of_mem (wsH_in hS.1 ha hb)
  refine va_copyM hM.1 hM.2.1 (hM.2.2.2.2.1.trans hL.1.symm) hM.2.2.2.1 (AW.at hC hl rfl) (AW.at hC hw.1 rfl) (AW.at hC hw.2.1 rfl) (AW.at hC hw.2.2 rfl) hC.1.1 (wsH_P hS.1) (wsH_D g h H.size) hS.2 q0 q1 3 3 hq0 hq1 rfl rfl h1 h2 h3 h4 h5 (fun i hi y hy => by obtain ⟨ci, vs, C, e1, e2, e3⟩ := hel i hi y hy; exact any_at hC hS e1 e2 e3) (show 1 ≤ d by omega) (Nat.le_trans (Nat.add_le_add_right hcat _) (show 8 + (nativeFrameWords "java/lang/System" "arraycopy" 5 + 11) ≤ 46 * d from Nat.le_trans (by decide +kernel : 8 + (nativeFrameWords "java/lang/System" "arraycopy" 5 + 11) ≤ 46 * 4) (Nat.mul_le_mul_left 46 hdd))) hd ?_
  intro H1 locs1 hP1 hD1 hS1
  exact kk p e s m args below meth c H1 locs1 cells slots lsA tc ts hM ⟨hS.1.set hC.2.1 hS.2 hS1 hq1 rfl hP1, hS1⟩ hL h6 h7
/-- the class of an Object[], as a constant and by getClass -/
theorem ev_ldcM {index : Nat} (n : Nat) (hd : decode (mC M) pc = .ok (.ldc index, 2)) (hl : Cond.classLink (mY M).cls index "[Ljava/lang/Object;" ∈ lw_tbl) (hn : pc + 2 = n) (kk : Ev g M d n ls (.ref (gM g) :: st) h mc ms Q) : Ev g M d pc ls st h mc ms Q := by
  subst hn
  intro p e s m args below meth c H locs cells slots lsA tc ts hM hS hL h1 h2
  have hC := hM.2.2.2.2.2.2.2.2
  exact va_ldcM hM.1 hM.2.1 hM.2.2.2.1 (AW.at hC hl rfl) hC.1.2.2.2.2.2.2.2.2.1 hd (kk p e s m args below meth c H locs cells slots lsA tc ts hM hS hL h1 h2)
/-- where a method throws always -/
def Qx (X : String → AH → Prop) : RT → AH → Prop := fun r h => match r with
  | .inr E => X E h
  | _ => False
end EVN
end
section
/-! THE TYPED MEMORY: numbers by kind, index, place; the references are the shape. -/
def J (z : Int) : Int32 := Int32.ofInt z
abbrev R31 (z : Int) : Prop := -2147483648 ≤ z ∧ z < 2147483648
theorem J_add (a b : Int) : J a + J b = J (a + b) := (Int32.ofInt_add a b).symm
theorem J_sub (a b : Int) : J a - J b = J (a - b) := (Int32.ofInt_sub a b).symm
theorem J_mul (a b : Int) : J a * J b = J (a * b) := (Int32.ofInt_mul a b).symm
theorem J_toInt {a : Int} (h : R31 a) : (J a).toInt = a := Int32.toInt_ofInt_of_le (by have := h.1; omega) (by have := h.2; omega)
theorem J_lt {a b : Int} (ha : R31 a) (hb : R31 b) : J a < J b ↔ a < b := by rw [Int32.lt_iff_toInt_lt, J_toInt ha, J_toInt hb]
theorem J_le {a b : Int} (ha : R31 a) (hb : R31 b) : J a ≤ J b ↔ a ≤ b := by rw [Int32.le_iff_toInt_le, J_toInt ha, J_toInt hb]
theorem J_eq {a b : Int} (ha : R31 a) (hb : R31 b) : J a = J b ↔ a = b := by rw [← Int32.toInt_inj, J_toInt ha, J_toInt hb]
theorem R31_0 : R31 0 := ⟨by omega, by omega⟩
theorem J_0 : J 0 = 0 := by decide
theorem J_lt0 {a : Int} (ha : R31 a) : J a < 0 ↔ a < 0 := by rw [← J_0]; exact J_lt ha R31_0
theorem J_0lt {a : Int} (ha : R31 a) : 0 < J a ↔ 0 < a := by rw [← J_0]; exact J_lt R31_0 ha
theorem J_le0 {a : Int} (ha : R31 a) : J a ≤ 0 ↔ a ≤ 0 := by rw [← J_0]; exact J_le ha R31_0
theorem J_0le {a : Int} (ha : R31 a) : 0 ≤ J a ↔ 0 ≤ a := by rw [← J_0]; exact J_le R31_0 ha
theorem J_eq0 {a : Int} (ha : R31 a) : J a = 0 ↔ a = 0 := by rw [← J_0]; exact J_eq ha R31_0
theorem J_of (x : Int32) : J x.toInt = x := Int32.ofInt_toInt x
theorem R31_of (x : Int32) : R31 x.toInt := ⟨by have := Int32.le_toInt x; omega, by have := Int32.toInt_lt x; omega⟩
theorem J_nI (n : Nat) : nI n = J (n : Int) := by
  apply Int32.toBitVec_inj.mp
  show BitVec.ofNat 32 n = BitVec.ofInt 32 (n : Int)
  exact (BitVec.ofInt_natCast ..).symm
theorem J_clamp {a : Int} (h : R31 a) : (J a).toNatClampNeg = a.toNat := by
  show (J a).toInt.toNat = _
  rw [J_toInt h]
theorem J_clampN {j : Nat} (h : j < 2147483648) : (J (j : Int)).toNatClampNeg = j := by
  rw [J_clamp ⟨by omega, by omega⟩]
  exact Int.toNat_natCast j
theorem J_in {j n : Nat} (h : j < n) (hn : n < 2147483648) : vp_in (J (j : Int)) n := by
  refine fun q => ?_
  rw [J_lt0 ⟨by omega, by omega⟩, J_clampN (by omega)] at q
  omega
def bi (b : Bool) : Int := if b = true then 1 else 0
theorem bi_t : bi true = 1 := rfl
theorem bi_f : bi false = 0 := rfl
theorem bi_01 (b : Bool) : bi b = 0 ∨ bi b = 1 := by cases b <;> simp [bi]
theorem bi_R (b : Bool) : R31 (bi b) := by cases b <;> exact ⟨by decide, by decide⟩
abbrev XM : Type := Nat → Nat → Nat → Int
/-- one place new -/
def xs (X : XM) (k i j : Nat) (v : Int) : XM := fun k' i' => if k' = k ∧ i' = i then (fun j' => if j' = j then v else X k i j') else X k' i'
theorem xs_ne {X : XM} {k i j : Nat} {v : Int} {k' i' : Nat} (h : ¬ (k' = k ∧ i' = i)) : xs X k i j v k' i' = X k' i' := if_neg h
theorem xs_nk {X : XM} {k i j : Nat} {v : Int} {k' : Nat} (h : k' ≠ k) : xs X k i j v k' = X k' := funext fun i' => if_neg (fun z => h z.1)
theorem xs_at (X : XM) (k i j : Nat) (v : Int) (j' : Nat) : xs X k i j v k i j' = if j' = j then v else X k i j' := by
  show (if k = k ∧ i = i then (fun j' => if j' = j then v else X k i j') else X k i) j' = _
  rw [if_pos ⟨rfl, rfl⟩]
theorem xs_fn (X : XM) (k i j : Nat) (v : Int) : xs X k i j v k i = fun j' => if j' = j then v else X k i j' := if_pos ⟨rfl, rfl⟩
theorem xs_all (X : XM) (k i j : Nat) (v : Int) (k' i' j' : Nat) : xs X k i j v k' i' j' = if k' = k ∧ i' = i ∧ j' = j then v else X k' i' j' := by
  by_cases h : k' = k ∧ i' = i
  · obtain ⟨rfl, rfl⟩ := h
    rw [xs_at]
    by_cases h2 : j' = j <;> simp [h2]
  · rw [xs_ne h, if_neg (fun z => h ⟨z.1, z.2.1⟩)]
/-- the kind of a list's elements -/
def ek (i : Nat) : Nat := if i = 0 then 12 else if i = 2 then 16 else if i = 3 then 14 else 4
abbrev ints (n : Nat) (x : Nat → Int) : AC := .inl (0, n, .inl (fun j => J (x j)))
abbrev bools (n : Nat) (x : Nat → Int) : AC := .inl (1, n, .inl (fun j => J (x j)))
abbrev chars (n : Nat) (x : Nat → Int) : AC := .inl (2, n, .inl (fun j => J (x j)))
abbrev AL : Type := Nat → Nat → Nat
def el (α : AL) (e : Nat) (v : Int) : Option Nat := if v < 0 then none else some (α e v.toNat)
/-- a formula's object: its kind stands at 9 (0 mark, 1 together, 2 credits, 3 count, 4 none) -/
def fcell (x : Nat → Int) : AC :=
  if x 9 = 0 then .inr (7, [.int (J (x 0)), .int (J (x 1)), .int (J (x 2))])
  else if x 9 = 1 then .inr (11, [.int (J (x 0)), .int (J (x 1))])
  else if x 9 = 2 then .inr (6, [.int (J (x 0)), .int (J (x 1))])
  else if x 9 = 3 then .inr (4, [.int (J (x 0)), .int (J (x 1)), .int (J (x 2)), .int (J (x 3)), .int (J (x 4))])
  else .inr (8, [.int (J (x 0)), .int (J (x 1))])
def ck0 (g : Gt) (α : AL) (i : Nat) (x : Nat → Int) : AC := .inr (13, [.ref (α 1 0), .ref (α 1 1), .ref (α 1 2), .ref (α 1 3), .ref (α 3 0), .int (J (x 5)), .int (J (x 6)), .ref (α 4 16), .ref (α 17 0), .ref (α 27 0), .ref (α 29 0), .ref (α 30 0)])
def ck1 (g : Gt) (α : AL) (i : Nat) (x : Nat → Int) : AC := .inr (2, [.int (J (x 0)), .ref (if x 1 = 0 then gE g else α 2 i), .int (J (x 2))])
def ck2 (g : Gt) (α : AL) (i : Nat) (x : Nat → Int) : AC := .inl (3, (x 0).toNat, .inr (.inr (.inr (.inr (fun j => el α (ek i) (x (j + 1)))))))
def ck3 (g : Gt) (α : AL) (i : Nat) (x : Nat → Int) : AC := ints 4 x
def ck4 (g : Gt) (α : AL) (i : Nat) (x : Nat → Int) : AC := .inr (10, [.int (J (x 0)), .ref (α 5 i), .ref (α 6 i), .ref (α 7 i), .ref (α 8 i), .ref (α 9 i), .ref (α 10 i)])
def ck5 (g : Gt) (α : AL) (i : Nat) (x : Nat → Int) : AC := bools 20 x
def ck6 (g : Gt) (α : AL) (i : Nat) (x : Nat → Int) : AC := bools 20 x
def ck7 (g : Gt) (α : AL) (i : Nat) (x : Nat → Int) : AC := ints 20 x
def ck8 (g : Gt) (α : AL) (i : Nat) (x : Nat → Int) : AC := ints 20 x
def ck9 (g : Gt) (α : AL) (i : Nat) (x : Nat → Int) : AC := ints 20 x
def ck10 (g : Gt) (α : AL) (i : Nat) (x : Nat → Int) : AC := .inl (4, 20, .inr (.inr (.inr (.inr (fun j => if j < 20 then some (α 11 (20 * i + j)) else none)))))
def ck11 (g : Gt) (α : AL) (i : Nat) (x : Nat → Int) : AC := ints 3 x
def ck12 (g : Gt) (α : AL) (i : Nat) (x : Nat → Int) : AC := .inr (5, [.int (J (i : Int)), .int (J (x 1)), .int (J (x 2)), .ref (α 13 i), .ref (α 1 (4 + i)), .int (J (x 5))])
def ck13 (g : Gt) (α : AL) (i : Nat) (x : Nat → Int) : AC := ints 4 x
def ck14 (g : Gt) (α : AL) (i : Nat) (x : Nat → Int) : AC := .inr (9, [.int (J (x 0)), .int (J (x 1)), .int (J (x 2)), .ref (α 15 i)])
def ck15 (g : Gt) (α : AL) (i : Nat) (x : Nat → Int) : AC := bools 20 x
def ck16 (g : Gt) (α : AL) (i : Nat) (x : Nat → Int) : AC := fcell x
def ck17 (g : Gt) (α : AL) (i : Nat) (x : Nat → Int) : AC := .inr (3, [.int (J (x 0)), .ref (α 18 0), .ref (α 19 0), .ref (α 20 0), .ref (α 21 0), .ref (α 22 0), .ref (α 23 0), .ref (α 24 0), .ref (α 25 0), .ref (α 26 0)])
def ck18 (g : Gt) (α : AL) (i : Nat) (x : Nat → Int) : AC := ints 4 x
def ck19 (g : Gt) (α : AL) (i : Nat) (x : Nat → Int) : AC := ints 4 x
def ck20 (g : Gt) (α : AL) (i : Nat) (x : Nat → Int) : AC := ints 20 x
def ck21 (g : Gt) (α : AL) (i : Nat) (x : Nat → Int) : AC := ints 4 x
def ck22 (g : Gt) (α : AL) (i : Nat) (x : Nat → Int) : AC := ints 4 x
def ck23 (g : Gt) (α : AL) (i : Nat) (x : Nat → Int) : AC := ints 20 x
def ck24 (g : Gt) (α : AL) (i : Nat) (x : Nat → Int) : AC := ints 4 x
def ck25 (g : Gt) (α : AL) (i : Nat) (x : Nat → Int) : AC := ints 4 x
def ck26 (g : Gt) (α : AL) (i : Nat) (x : Nat → Int) : AC := bools 256 x
def ck27 (g : Gt) (α : AL) (i : Nat) (x : Nat → Int) : AC := .inr (12, [.ref (α 28 0), .int (J (x 1))])
def ck28 (g : Gt) (α : AL) (i : Nat) (x : Nat → Int) : AC := chars 340 x
def ck29 (g : Gt) (α : AL) (i : Nat) (x : Nat → Int) : AC := bools 20 x
def ck30 (g : Gt) (α : AL) (i : Nat) (x : Nat → Int) : AC := ints 6 x
def ck40 (g : Gt) (α : AL) (i : Nat) (x : Nat → Int) : AC := .inr (14, [.ref (α 41 0), .ref (α 42 0), .ref (α 43 0), .ref (α 44 0), .ref (α 45 0), .ref (α 46 0), .ref (α 47 0), .ref (α 48 0), .ref (α 49 0)])
def ck41 (g : Gt) (α : AL) (i : Nat) (x : Nat → Int) : AC := ints 12 x
def ck42 (g : Gt) (α : AL) (i : Nat) (x : Nat → Int) : AC := ints 12 x
def ck43 (g : Gt) (α : AL) (i : Nat) (x : Nat → Int) : AC := ints 12 x
def ck44 (g : Gt) (α : AL) (i : Nat) (x : Nat → Int) : AC := ints 12 x
def ck45 (g : Gt) (α : AL) (i : Nat) (x : Nat → Int) : AC := ints 5 x
def ck46 (g : Gt) (α : AL) (i : Nat) (x : Nat → Int) : AC := ints 5 x
def ck47 (g : Gt) (α : AL) (i : Nat) (x : Nat → Int) : AC := ints 5 x
def ck48 (g : Gt) (α : AL) (i : Nat) (x : Nat → Int) : AC := ints 20 x
def ck49 (g : Gt) (α : AL) (i : Nat) (x : Nat → Int) : AC := ints 5 x
def ckL : List (Gt → AL → Nat → (Nat → Int) → AC) := [ck0, ck1, ck2, ck3, ck4, ck5, ck6, ck7, ck8, ck9, ck10, ck11, ck12, ck13, ck14, ck15, ck16, ck17, ck18, ck19, ck20, ck21, ck22, ck23, ck24, ck25, ck26, ck27, ck28, ck29, ck30, ck0, ck0, ck0, ck0, ck0, ck0, ck0, ck0, ck0, ck40, ck41, ck42, ck43, ck44, ck45, ck46, ck47, ck48, ck49]
def cellK (g : Gt) (α : AL) (k i : Nat) (x : Nat → Int) : AC := (ckL.getD k ck0) g α i x
/-- which cells there are, by the groups that come together: 0 what there is once, 2 a list's array, 4 a student, 12 a course, 14 a rule, 16 a formula -/
def gk (k i : Nat) : Nat × Nat :=
  if k = 2 then (2, i) else if k = 11 then (4, i / 20) else if 4 ≤ k ∧ k ≤ 10 then (4, i) else if k = 12 ∨ k = 13 then (12, i)
  else if k = 1 then (if i < 4 then (0, 0) else (12, i - 4)) else if k = 14 ∨ k = 15 then (14, i) else if k = 16 then (16, i) else (0, i)
def kOk (k : Nat) : Bool := decide (k < 31) || decide (40 ≤ k ∧ k ≤ 49)
def vk (ν : Nat → Nat → Bool) (k i : Nat) : Bool := ν (gk k i).1 (gk k i).2 && kOk k && (!decide ((gk k i).1 = 0) || decide ((gk k i).2 = 0)) && (!decide ((gk k i).1 = 4) || decide (i < 340))
def TR (g : Gt) (α : AL) (ν : Nat → Nat → Bool) (X : XM) (h : AH) : Prop :=
  (∀ k i, vk ν k i = true → h (α k i) = some (cellK g α k i (X k i)) ∧ gB g ≤ α k i) ∧
  (∀ k i k' i', vk ν k i = true → vk ν k' i' = true → α k i = α k' i' → k = k' ∧ i = i') ∧
  (∀ k i j, k ≠ 91 → R31 (X k i j)) ∧ ν 0 0 = true
section TYP
variable {g : Gt} {α : AL} {ν : Nat → Nat → Bool} {X : XM} {h : AH}
theorem TR.rng (hT : TR g α ν X h) (k i j : Nat) (hk : k ≠ 91 := by decide) : R31 (X k i j) := hT.2.2.1 k i j hk
theorem TR.seti (hT : TR g α ν X h) {k i ki len : Nat} (hv : vk ν k i = true) (hk : ∀ x, cellK g α k i x = .inl (ki, len, .inl (fun j => J (x j)))) (j : Nat) {v : Int} (hr : R31 v) : TR g α ν (xs X k i j v) (hup h (α k i) (.inl (ki, len, .inl (upd (fun j => J (X k i j)) j (J v))))) := by
  refine ⟨fun k' i' hv' => ⟨?_, (hT.1 k' i' hv').2⟩, hT.2.1, fun k' i' j' h91 => ?_, hT.2.2.2⟩
  · by_cases e : k' = k ∧ i' = i
    · obtain ⟨rfl, rfl⟩ := e
      rw [hup_eq, hk, xs_fn]
      refine congrArg some (congrArg Sum.inl (congrArg (fun f => (ki, len, Sum.inl f)) (funext fun j' => ?_)))
      unfold upd
      by_cases e2 : j' = j
      · simp [e2]
      · simp [e2]
    · rw [hup_ne (fun z => e (hT.2.1 k' i' k i hv' hv z)), xs_ne e]
      exact (hT.1 k' i' hv').1
  · rw [xs_all]
    by_cases e : k' = k ∧ i' = i ∧ j' = j
    · rw [if_pos e]; exact hr
    · rw [if_neg e]; exact hT.rng k' i' j' h91
theorem TR.setf (hT : TR g α ν X h) {k i ci : Nat} {F : (Nat → Int) → List Value} (hv : vk ν k i = true) (hk : ∀ x, cellK g α k i x = .inr (ci, F x)) (j : Nat) {v : Int} (hr : R31 v) {fs : List Value} (hs : fs = F (fun j' => if j' = j then v else X k i j')) : TR g α ν (xs X k i j v) (hup h (α k i) (.inr (ci, fs))) := by
  refine ⟨fun k' i' hv' => ⟨?_, (hT.1 k' i' hv').2⟩, hT.2.1, fun k' i' j' h91 => ?_, hT.2.2.2⟩
  · by_cases e : k' = k ∧ i' = i
    · obtain ⟨rfl, rfl⟩ := e
      rw [hup_eq, hk, xs_fn, hs]
    · rw [hup_ne (fun z => e (hT.2.1 k' i' k i hv' hv z)), xs_ne e]
      exact (hT.1 k' i' hv').1
  · rw [xs_all]
    by_cases e : k' = k ∧ i' = i ∧ j' = j
    · rw [if_pos e]; exact hr
    · rw [if_neg e]; exact hT.rng k' i' j' h91
theorem tv0 (hT : TR g α ν X h)  : vk ν 0 0 = true := by simp [vk, gk, kOk, hT.2.2.2]
theorem tr0 (hT : TR g α ν X h)  : h (α 0 0) = some (ck0 g α 0 (X 0 0)) := (hT.1 0 0 (tv0 hT)).1
theorem tv1_0 (hT : TR g α ν X h) : vk ν 1 0 = true := by simp [vk, gk, kOk, hT.2.2.2]
theorem tr1_0 (hT : TR g α ν X h) : h (α 1 0) = some (ck1 g α 0 (X 1 0)) := (hT.1 1 0 (tv1_0 hT)).1
theorem tv1_1 (hT : TR g α ν X h) : vk ν 1 1 = true := by simp [vk, gk, kOk, hT.2.2.2]
theorem tr1_1 (hT : TR g α ν X h) : h (α 1 1) = some (ck1 g α 1 (X 1 1)) := (hT.1 1 1 (tv1_1 hT)).1
theorem tv1_2 (hT : TR g α ν X h) : vk ν 1 2 = true := by simp [vk, gk, kOk, hT.2.2.2]
theorem tr1_2 (hT : TR g α ν X h) : h (α 1 2) = some (ck1 g α 2 (X 1 2)) := (hT.1 1 2 (tv1_2 hT)).1
theorem tv1_3 (hT : TR g α ν X h) : vk ν 1 3 = true := by simp [vk, gk, kOk, hT.2.2.2]
theorem tr1_3 (hT : TR g α ν X h) : h (α 1 3) = some (ck1 g α 3 (X 1 3)) := (hT.1 1 3 (tv1_3 hT)).1
theorem tv1_W (hT : TR g α ν X h) {i : Nat} (hi : ν 12 i = true) : vk ν 1 (4 + i) = true := by
  have e : ¬ 4 + i < 4 := by omega
  simp [vk, gk, kOk, hi, e]
theorem tr1_W (hT : TR g α ν X h) {i : Nat} (hi : ν 12 i = true) : h (α 1 (4 + i)) = some (ck1 g α (4 + i) (X 1 (4 + i))) := (hT.1 1 (4 + i) (tv1_W hT hi)).1
theorem tv2 (hT : TR g α ν X h) {i : Nat} (hi : ν 2 i = true) : vk ν 2 i = true := by simp [vk, gk, kOk, hi]
theorem tr2 (hT : TR g α ν X h) {i : Nat} (hi : ν 2 i = true) : h (α 2 i) = some (ck2 g α i (X 2 i)) := (hT.1 2 i (tv2 hT hi)).1
theorem tv3 (hT : TR g α ν X h)  : vk ν 3 0 = true := by simp [vk, gk, kOk, hT.2.2.2]
theorem tr3 (hT : TR g α ν X h)  : h (α 3 0) = some (ck3 g α 0 (X 3 0)) := (hT.1 3 0 (tv3 hT)).1
theorem tv4 (hT : TR g α ν X h) {i : Nat} (hi : ν 4 i = true) (hl : i < 17) : vk ν 4 i = true := by simp [vk, gk, kOk, hi]; omega
theorem tr4 (hT : TR g α ν X h) {i : Nat} (hi : ν 4 i = true) (hl : i < 17) : h (α 4 i) = some (ck4 g α i (X 4 i)) := (hT.1 4 i (tv4 hT hi hl)).1
theorem tv5 (hT : TR g α ν X h) {i : Nat} (hi : ν 4 i = true) (hl : i < 17) : vk ν 5 i = true := by simp [vk, gk, kOk, hi]; omega
theorem tr5 (hT : TR g α ν X h) {i : Nat} (hi : ν 4 i = true) (hl : i < 17) : h (α 5 i) = some (ck5 g α i (X 5 i)) := (hT.1 5 i (tv5 hT hi hl)).1
theorem tv6 (hT : TR g α ν X h) {i : Nat} (hi : ν 4 i = true) (hl : i < 17) : vk ν 6 i = true := by simp [vk, gk, kOk, hi]; omega
theorem tr6 (hT : TR g α ν X h) {i : Nat} (hi : ν 4 i = true) (hl : i < 17) : h (α 6 i) = some (ck6 g α i (X 6 i)) := (hT.1 6 i (tv6 hT hi hl)).1
theorem tv7 (hT : TR g α ν X h) {i : Nat} (hi : ν 4 i = true) (hl : i < 17) : vk ν 7 i = true := by simp [vk, gk, kOk, hi]; omega
theorem tr7 (hT : TR g α ν X h) {i : Nat} (hi : ν 4 i = true) (hl : i < 17) : h (α 7 i) = some (ck7 g α i (X 7 i)) := (hT.1 7 i (tv7 hT hi hl)).1
theorem tv8 (hT : TR g α ν X h) {i : Nat} (hi : ν 4 i = true) (hl : i < 17) : vk ν 8 i = true := by simp [vk, gk, kOk, hi]; omega
theorem tr8 (hT : TR g α ν X h) {i : Nat} (hi : ν 4 i = true) (hl : i < 17) : h (α 8 i) = some (ck8 g α i (X 8 i)) := (hT.1 8 i (tv8 hT hi hl)).1
theorem tv9 (hT : TR g α ν X h) {i : Nat} (hi : ν 4 i = true) (hl : i < 17) : vk ν 9 i = true := by simp [vk, gk, kOk, hi]; omega
theorem tr9 (hT : TR g α ν X h) {i : Nat} (hi : ν 4 i = true) (hl : i < 17) : h (α 9 i) = some (ck9 g α i (X 9 i)) := (hT.1 9 i (tv9 hT hi hl)).1
theorem tv10 (hT : TR g α ν X h) {i : Nat} (hi : ν 4 i = true) (hl : i < 17) : vk ν 10 i = true := by simp [vk, gk, kOk, hi]; omega
theorem tr10 (hT : TR g α ν X h) {i : Nat} (hi : ν 4 i = true) (hl : i < 17) : h (α 10 i) = some (ck10 g α i (X 10 i)) := (hT.1 10 i (tv10 hT hi hl)).1
theorem tv11 (hT : TR g α ν X h) {i : Nat} (hi : ν 4 (i / 20) = true) (hl : i < 340) : vk ν 11 i = true := by simp [vk, gk, kOk, hi]; omega
theorem tr11 (hT : TR g α ν X h) {i : Nat} (hi : ν 4 (i / 20) = true) (hl : i < 340) : h (α 11 i) = some (ck11 g α i (X 11 i)) := (hT.1 11 i (tv11 hT hi hl)).1
theorem tv12 (hT : TR g α ν X h) {i : Nat} (hi : ν 12 i = true) : vk ν 12 i = true := by simp [vk, gk, kOk, hi]
theorem tr12 (hT : TR g α ν X h) {i : Nat} (hi : ν 12 i = true) : h (α 12 i) = some (ck12 g α i (X 12 i)) := (hT.1 12 i (tv12 hT hi)).1
theorem tv13 (hT : TR g α ν X h) {i : Nat} (hi : ν 12 i = true) : vk ν 13 i = true := by simp [vk, gk, kOk, hi]
theorem tr13 (hT : TR g α ν X h) {i : Nat} (hi : ν 12 i = true) : h (α 13 i) = some (ck13 g α i (X 13 i)) := (hT.1 13 i (tv13 hT hi)).1
theorem tv14 (hT : TR g α ν X h) {i : Nat} (hi : ν 14 i = true) : vk ν 14 i = true := by simp [vk, gk, kOk, hi]
theorem tr14 (hT : TR g α ν X h) {i : Nat} (hi : ν 14 i = true) : h (α 14 i) = some (ck14 g α i (X 14 i)) := (hT.1 14 i (tv14 hT hi)).1
theorem tv15 (hT : TR g α ν X h) {i : Nat} (hi : ν 14 i = true) : vk ν 15 i = true := by simp [vk, gk, kOk, hi]
theorem tr15 (hT : TR g α ν X h) {i : Nat} (hi : ν 14 i = true) : h (α 15 i) = some (ck15 g α i (X 15 i)) := (hT.1 15 i (tv15 hT hi)).1
theorem tv16 (hT : TR g α ν X h) {i : Nat} (hi : ν 16 i = true) : vk ν 16 i = true := by simp [vk, gk, kOk, hi]
theorem tr16 (hT : TR g α ν X h) {i : Nat} (hi : ν 16 i = true) : h (α 16 i) = some (ck16 g α i (X 16 i)) := (hT.1 16 i (tv16 hT hi)).1
theorem tv17 (hT : TR g α ν X h)  : vk ν 17 0 = true := by simp [vk, gk, kOk, hT.2.2.2]
theorem tr17 (hT : TR g α ν X h)  : h (α 17 0) = some (ck17 g α 0 (X 17 0)) := (hT.1 17 0 (tv17 hT)).1
theorem tv18 (hT : TR g α ν X h)  : vk ν 18 0 = true := by simp [vk, gk, kOk, hT.2.2.2]
theorem tr18 (hT : TR g α ν X h)  : h (α 18 0) = some (ck18 g α 0 (X 18 0)) := (hT.1 18 0 (tv18 hT)).1
theorem tv19 (hT : TR g α ν X h)  : vk ν 19 0 = true := by simp [vk, gk, kOk, hT.2.2.2]
theorem tr19 (hT : TR g α ν X h)  : h (α 19 0) = some (ck19 g α 0 (X 19 0)) := (hT.1 19 0 (tv19 hT)).1
theorem tv20 (hT : TR g α ν X h)  : vk ν 20 0 = true := by simp [vk, gk, kOk, hT.2.2.2]
theorem tr20 (hT : TR g α ν X h)  : h (α 20 0) = some (ck20 g α 0 (X 20 0)) := (hT.1 20 0 (tv20 hT)).1
theorem tv21 (hT : TR g α ν X h)  : vk ν 21 0 = true := by simp [vk, gk, kOk, hT.2.2.2]
theorem tr21 (hT : TR g α ν X h)  : h (α 21 0) = some (ck21 g α 0 (X 21 0)) := (hT.1 21 0 (tv21 hT)).1
theorem tv22 (hT : TR g α ν X h)  : vk ν 22 0 = true := by simp [vk, gk, kOk, hT.2.2.2]
theorem tr22 (hT : TR g α ν X h)  : h (α 22 0) = some (ck22 g α 0 (X 22 0)) := (hT.1 22 0 (tv22 hT)).1
theorem tv23 (hT : TR g α ν X h)  : vk ν 23 0 = true := by simp [vk, gk, kOk, hT.2.2.2]
theorem tr23 (hT : TR g α ν X h)  : h (α 23 0) = some (ck23 g α 0 (X 23 0)) := (hT.1 23 0 (tv23 hT)).1
theorem tv24 (hT : TR g α ν X h)  : vk ν 24 0 = true := by simp [vk, gk, kOk, hT.2.2.2]
theorem tr24 (hT : TR g α ν X h)  : h (α 24 0) = some (ck24 g α 0 (X 24 0)) := (hT.1 24 0 (tv24 hT)).1
theorem tv25 (hT : TR g α ν X h)  : vk ν 25 0 = true := by simp [vk, gk, kOk, hT.2.2.2]
theorem tr25 (hT : TR g α ν X h)  : h (α 25 0) = some (ck25 g α 0 (X 25 0)) := (hT.1 25 0 (tv25 hT)).1
theorem tv26 (hT : TR g α ν X h)  : vk ν 26 0 = true := by simp [vk, gk, kOk, hT.2.2.2]
theorem tr26 (hT : TR g α ν X h)  : h (α 26 0) = some (ck26 g α 0 (X 26 0)) := (hT.1 26 0 (tv26 hT)).1
theorem tv27 (hT : TR g α ν X h)  : vk ν 27 0 = true := by simp [vk, gk, kOk, hT.2.2.2]
theorem tr27 (hT : TR g α ν X h)  : h (α 27 0) = some (ck27 g α 0 (X 27 0)) := (hT.1 27 0 (tv27 hT)).1
theorem tv28 (hT : TR g α ν X h)  : vk ν 28 0 = true := by simp [vk, gk, kOk, hT.2.2.2]
theorem tr28 (hT : TR g α ν X h)  : h (α 28 0) = some (ck28 g α 0 (X 28 0)) := (hT.1 28 0 (tv28 hT)).1
theorem tv29 (hT : TR g α ν X h)  : vk ν 29 0 = true := by simp [vk, gk, kOk, hT.2.2.2]
theorem tr29 (hT : TR g α ν X h)  : h (α 29 0) = some (ck29 g α 0 (X 29 0)) := (hT.1 29 0 (tv29 hT)).1
theorem tv30 (hT : TR g α ν X h)  : vk ν 30 0 = true := by simp [vk, gk, kOk, hT.2.2.2]
theorem tr30 (hT : TR g α ν X h)  : h (α 30 0) = some (ck30 g α 0 (X 30 0)) := (hT.1 30 0 (tv30 hT)).1
theorem tv40 (hT : TR g α ν X h)  : vk ν 40 0 = true := by simp [vk, gk, kOk, hT.2.2.2]
theorem tr40 (hT : TR g α ν X h)  : h (α 40 0) = some (ck40 g α 0 (X 40 0)) := (hT.1 40 0 (tv40 hT)).1
theorem tv41 (hT : TR g α ν X h)  : vk ν 41 0 = true := by simp [vk, gk, kOk, hT.2.2.2]
theorem tr41 (hT : TR g α ν X h)  : h (α 41 0) = some (ck41 g α 0 (X 41 0)) := (hT.1 41 0 (tv41 hT)).1
theorem tv42 (hT : TR g α ν X h)  : vk ν 42 0 = true := by simp [vk, gk, kOk, hT.2.2.2]
theorem tr42 (hT : TR g α ν X h)  : h (α 42 0) = some (ck42 g α 0 (X 42 0)) := (hT.1 42 0 (tv42 hT)).1
theorem tv43 (hT : TR g α ν X h)  : vk ν 43 0 = true := by simp [vk, gk, kOk, hT.2.2.2]
theorem tr43 (hT : TR g α ν X h)  : h (α 43 0) = some (ck43 g α 0 (X 43 0)) := (hT.1 43 0 (tv43 hT)).1
theorem tv44 (hT : TR g α ν X h)  : vk ν 44 0 = true := by simp [vk, gk, kOk, hT.2.2.2]
theorem tr44 (hT : TR g α ν X h)  : h (α 44 0) = some (ck44 g α 0 (X 44 0)) := (hT.1 44 0 (tv44 hT)).1
theorem tv45 (hT : TR g α ν X h)  : vk ν 45 0 = true := by simp [vk, gk, kOk, hT.2.2.2]
theorem tr45 (hT : TR g α ν X h)  : h (α 45 0) = some (ck45 g α 0 (X 45 0)) := (hT.1 45 0 (tv45 hT)).1
theorem tv46 (hT : TR g α ν X h)  : vk ν 46 0 = true := by simp [vk, gk, kOk, hT.2.2.2]
theorem tr46 (hT : TR g α ν X h)  : h (α 46 0) = some (ck46 g α 0 (X 46 0)) := (hT.1 46 0 (tv46 hT)).1
theorem tv47 (hT : TR g α ν X h)  : vk ν 47 0 = true := by simp [vk, gk, kOk, hT.2.2.2]
theorem tr47 (hT : TR g α ν X h)  : h (α 47 0) = some (ck47 g α 0 (X 47 0)) := (hT.1 47 0 (tv47 hT)).1
theorem tv48 (hT : TR g α ν X h)  : vk ν 48 0 = true := by simp [vk, gk, kOk, hT.2.2.2]
theorem tr48 (hT : TR g α ν X h)  : h (α 48 0) = some (ck48 g α 0 (X 48 0)) := (hT.1 48 0 (tv48 hT)).1
theorem tv49 (hT : TR g α ν X h)  : vk ν 49 0 = true := by simp [vk, gk, kOk, hT.2.2.2]
theorem tr49 (hT : TR g α ν X h)  : h (α 49 0) = some (ck49 g α 0 (X 49 0)) := (hT.1 49 0 (tv49 hT)).1
end TYP
end
